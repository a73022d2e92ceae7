def wFS (h : Nat → Nat) (cs : Nat → ClassId) (I : Nat → Int32) (L : Nat → Int64) (A : Nat → Nat → Int32) (Q : Nat → Nat → Int64) (G : Nat → Nat → Nat → Int32) (J : Nat → Nat → Nat → Int64) : va_W := [(h 100, .inr (9, [.ref (h 101), .ref (h 102), .ref (h 103), .ref (h 104), .ref (h 105), .ref (h 106), .ref (h 107), .ref (h 108), .ref (h 109)])), (h 109, .inl (cs 5, 4, .inr (.inr (.inr (.inr (fun i => if i < 4 then some (h (i + 110)) else none)))))), (h 110, .inr (5, [.int (I 220), .int (I 224), .ref (h 228)])), (h 228, .inl (cs 1, 25, .inr (.inl (Q 228)))), (h 111, .inr (5, [.int (I 221), .int (I 225), .ref (h 229)])), (h 229, .inl (cs 1, 25, .inr (.inl (Q 229)))), (h 112, .inr (5, [.int (I 222), .int (I 226), .ref (h 230)])), (h 230, .inl (cs 1, 25, .inr (.inl (Q 230)))), (h 113, .inr (5, [.int (I 223), .int (I 227), .ref (h 231)])), (h 231, .inl (cs 1, 25, .inr (.inl (Q 231))))]
def wFX (h : Nat → Nat) (cs : Nat → ClassId) (I : Nat → Int32) (L : Nat → Int64) (A : Nat → Nat → Int32) (Q : Nat → Nat → Int64) (G : Nat → Nat → Nat → Int32) (J : Nat → Nat → Nat → Int64) : va_W := [(h 100, .inr (9, [.ref (h 101), .ref (h 102), .ref (h 103), .ref (h 104), .ref (h 105), .ref (h 106), .ref (h 107), .ref (h 108), .ref (h 109)])), (h 109, .inl (cs 5, 4, .inr (.inr (.inr (.inr (fun i => if i < 4 then some (h (i + 110)) else none)))))), (h 110, .inr (5, [.int (I 220), .int (I 224), .ref (h 228)])), (h 228, .inl (cs 1, 25, .inr (.inl (Q 228)))), (h 111, .inr (5, [.int (I 221), .int (I 225), .ref (h 229)])), (h 229, .inl (cs 1, 25, .inr (.inl (Q 229)))), (h 112, .inr (5, [.int (I 222), .int (I 226), .ref (h 230)])), (h 230, .inl (cs 1, 25, .inr (.inl (Q 230)))), (h 113, .inr (5, [.int (I 223), .int (I 227), .ref (h 231)])), (h 231, .inl (cs 1, 25, .inr (.inl (Q 231)))), (h 101, .inr (3, [.int (I 120), .int (I 121), .int (I 122), .int (I 123), .ref (h 130), .ref (h 136)])), (h 130, .inl (cs 3, 5, .inr (.inr (.inr (.inr (fun i => if i < 5 then some (h (i + 131)) else none)))))), (h 131, .inl (cs 0, 4, .inl ((G 0) 0))), (h 132, .inl (cs 0, 4, .inl ((G 0) 1))), (h 133, .inl (cs 0, 4, .inl ((G 0) 2))), (h 134, .inl (cs 0, 4, .inl ((G 0) 3))), (h 135, .inl (cs 0, 4, .inl ((G 0) 4))), (h 136, .inl (cs 0, 5, .inl (A 136))), (h 102, .inr (0, [.ref (h 101), .ref (h 140), .ref (h 141), .ref (h 142), .ref (h 143), .int (I 144), .int (I 145), .int (I 146)])), (h 140, .inl (cs 0, 40, .inl (A 140))), (h 141, .inl (cs 0, 40, .inl (A 141))), (h 142, .inl (cs 0, 40, .inl (A 142))), (h 143, .inl (cs 0, 40, .inl (A 143)))]
theorem wFX_atG0 {h : Nat → Nat} {cs : Nat → ClassId} {I : Nat → Int32} {L : Nat → Int64} {A : Nat → Nat → Int32} {Q : Nat → Nat → Int64} {G : Nat → Nat → Nat → Int32} {J : Nat → Nat → Nat → Int64} {k : Nat} (hk : k < 5) : (wFX h cs I L A Q G J)[12 + k]? = some (h (k + 131), .inl (cs 0, 4, .inl (G 0 k))) := by
  rcases (show k = 0 ∨ k = 1 ∨ k = 2 ∨ k = 3 ∨ k = 4 by omega) with rfl | rfl | rfl | rfl | rfl <;> rfl
theorem wFX_setG0 {h : Nat → Nat} {cs : Nat → ClassId} {I : Nat → Int32} {L : Nat → Int64} {A : Nat → Nat → Int32} {Q : Nat → Nat → Int64} {G : Nat → Nat → Nat → Int32} {J : Nat → Nat → Nat → Int64} {k : Nat} {f : Nat → Int32} (hk : k < 5) : (wFX h cs I L A Q G J).set (12 + k) (h (k + 131), .inl (cs 0, 4, .inl (f))) = wFX h cs I L A Q (va_up G 0 (va_up (G 0) k f)) J := by
  rcases (show k = 0 ∨ k = 1 ∨ k = 2 ∨ k = 3 ∨ k = 4 by omega) with rfl | rfl | rfl | rfl | rfl <;> rfl
def wFR (h : Nat → Nat) (cs : Nat → ClassId) (I : Nat → Int32) (L : Nat → Int64) (A : Nat → Nat → Int32) (Q : Nat → Nat → Int64) (G : Nat → Nat → Nat → Int32) (J : Nat → Nat → Nat → Int64) : va_W := [(h 100, .inr (9, [.ref (h 101), .ref (h 102), .ref (h 103), .ref (h 104), .ref (h 105), .ref (h 106), .ref (h 107), .ref (h 108), .ref (h 109)])), (h 104, .inr (4, [.ref (h 103), .ref (h 160), .int (I 166), .int (I 167), .int (I 168), .int (I 169)])), (h 160, .inl (cs 3, 5, .inr (.inr (.inr (.inr (fun i => if i < 5 then some (h (i + 161)) else none)))))), (h 161, .inl (cs 0, 4, .inl ((G 1) 0))), (h 162, .inl (cs 0, 4, .inl ((G 1) 1))), (h 163, .inl (cs 0, 4, .inl ((G 1) 2))), (h 164, .inl (cs 0, 4, .inl ((G 1) 3))), (h 165, .inl (cs 0, 4, .inl ((G 1) 4))), (h 103, .inr (7, [.ref (h 150), .int (I 151)])), (h 150, .inl (cs 2, 90, .inl (A 150))), (h 101, .inr (3, [.int (I 120), .int (I 121), .int (I 122), .int (I 123), .ref (h 130), .ref (h 136)])), (h 130, .inl (cs 3, 5, .inr (.inr (.inr (.inr (fun i => if i < 5 then some (h (i + 131)) else none)))))), (h 131, .inl (cs 0, 4, .inl ((G 0) 0))), (h 132, .inl (cs 0, 4, .inl ((G 0) 1))), (h 133, .inl (cs 0, 4, .inl ((G 0) 2))), (h 134, .inl (cs 0, 4, .inl ((G 0) 3))), (h 135, .inl (cs 0, 4, .inl ((G 0) 4))), (h 136, .inl (cs 0, 5, .inl (A 136))), (h 102, .inr (0, [.ref (h 101), .ref (h 140), .ref (h 141), .ref (h 142), .ref (h 143), .int (I 144), .int (I 145), .int (I 146)])), (h 140, .inl (cs 0, 40, .inl (A 140))), (h 141, .inl (cs 0, 40, .inl (A 141))), (h 142, .inl (cs 0, 40, .inl (A 142))), (h 143, .inl (cs 0, 40, .inl (A 143)))]
theorem wFR_atG1 {h : Nat → Nat} {cs : Nat → ClassId} {I : Nat → Int32} {L : Nat → Int64} {A : Nat → Nat → Int32} {Q : Nat → Nat → Int64} {G : Nat → Nat → Nat → Int32} {J : Nat → Nat → Nat → Int64} {k : Nat} (hk : k < 5) : (wFR h cs I L A Q G J)[3 + k]? = some (h (k + 161), .inl (cs 0, 4, .inl (G 1 k))) := by
  rcases (show k = 0 ∨ k = 1 ∨ k = 2 ∨ k = 3 ∨ k = 4 by omega) with rfl | rfl | rfl | rfl | rfl <;> rfl
theorem wFR_setG1 {h : Nat → Nat} {cs : Nat → ClassId} {I : Nat → Int32} {L : Nat → Int64} {A : Nat → Nat → Int32} {Q : Nat → Nat → Int64} {G : Nat → Nat → Nat → Int32} {J : Nat → Nat → Nat → Int64} {k : Nat} {f : Nat → Int32} (hk : k < 5) : (wFR h cs I L A Q G J).set (3 + k) (h (k + 161), .inl (cs 0, 4, .inl (f))) = wFR h cs I L A Q (va_up G 1 (va_up (G 1) k f)) J := by
  rcases (show k = 0 ∨ k = 1 ∨ k = 2 ∨ k = 3 ∨ k = 4 by omega) with rfl | rfl | rfl | rfl | rfl <;> rfl
theorem wFR_atG0 {h : Nat → Nat} {cs : Nat → ClassId} {I : Nat → Int32} {L : Nat → Int64} {A : Nat → Nat → Int32} {Q : Nat → Nat → Int64} {G : Nat → Nat → Nat → Int32} {J : Nat → Nat → Nat → Int64} {k : Nat} (hk : k < 5) : (wFR h cs I L A Q G J)[12 + k]? = some (h (k + 131), .inl (cs 0, 4, .inl (G 0 k))) := by
  rcases (show k = 0 ∨ k = 1 ∨ k = 2 ∨ k = 3 ∨ k = 4 by omega) with rfl | rfl | rfl | rfl | rfl <;> rfl
theorem wFR_setG0 {h : Nat → Nat} {cs : Nat → ClassId} {I : Nat → Int32} {L : Nat → Int64} {A : Nat → Nat → Int32} {Q : Nat → Nat → Int64} {G : Nat → Nat → Nat → Int32} {J : Nat → Nat → Nat → Int64} {k : Nat} {f : Nat → Int32} (hk : k < 5) : (wFR h cs I L A Q G J).set (12 + k) (h (k + 131), .inl (cs 0, 4, .inl (f))) = wFR h cs I L A Q (va_up G 0 (va_up (G 0) k f)) J := by
  rcases (show k = 0 ∨ k = 1 ∨ k = 2 ∨ k = 3 ∨ k = 4 by omega) with rfl | rfl | rfl | rfl | rfl <;> rfl

def rfP (I : Nat → Int32) (x y z : Int32) (c9 : Nat) (r : Int32) : Prop :=
  (r = -1 ∧ ∀ s v : Nat, s < 4 → v < 3 → x = nI s → y = nI v → False) ∨ ∃ s v : Nat, s < 4 ∧ v < 3 ∧ x = nI s ∧ y = nI v ∧ ((I (220 + s) = -1 ∧ r = -11) ∨ (¬ I (220 + s) = -1 ∧ ¬ I (220 + s) = nI v ∧ r = -12) ∨ (¬ I (220 + s) = -1 ∧ I (220 + s) = nI v ∧ ((r = -13 ∧ ∀ i ln : Nat, ln ≤ 25 → z = nI i → I (224 + s) = nI ln → i + c9 ≤ ln → False) ∨ (r = nI 0 ∧ ∃ i ln : Nat, ln ≤ 25 ∧ z = nI i ∧ I (224 + s) = nI ln ∧ i + c9 ≤ ln))))
theorem nI_subI {a b : Nat} (ha : a ≤ 1000) (hb : b ≤ 1000) : (nI a - nI b).toInt = (a : Int) - b := by
  rw [Int32.toInt_sub, nI_toInt (by omega), nI_toInt (by omega)]
  exact Int.bmod_eq_of_le (by omega) (by omega)
theorem ix_yes {z : Int32} {ln c9 : Nat} (h1 : ¬ z < 0) (hl : ln ≤ 25) (hc : c9 ≤ 25) (h2 : z ≤ nI ln - nI c9) : ∃ i : Nat, z = nI i ∧ i + c9 ≤ ln := by
  have h1 := Int32.le_iff_toInt_le.mp (Int32.not_lt.mp h1)
  have h0 : (0 : Int32).toInt = 0 := by decide
  rw [h0] at h1
  rw [Int32.le_iff_toInt_le, nI_subI (by omega) (by omega)] at h2
  exact ⟨z.toInt.toNat, (nI_at h1).1, by omega⟩
theorem ix_no1 {z : Int32} {ln c9 : Nat} {e : Int32} (h1 : z < 0) : ∀ i l2 : Nat, l2 ≤ 25 → z = nI i → e = nI l2 → i + c9 ≤ l2 → False := fun i l2 a b _ d => nI_pos (show i < 2 ^ 31 by omega) (b ▸ h1)
theorem ix_no2 {z : Int32} {ln c9 : Nat} {e : Int32} (hl : ln ≤ 25) (hc : c9 ≤ 25) (he : e = nI ln) (h2 : ¬ z ≤ nI ln - nI c9) : ∀ i l2 : Nat, l2 ≤ 25 → z = nI i → e = nI l2 → i + c9 ≤ l2 → False := fun i l2 a b c d => h2 (by
  have e1 : l2 = ln := (nI_eq (by omega) (by omega)).mp (c.symm.trans he)
  rw [Int32.le_iff_toInt_le, nI_subI (by omega) (by omega), b, nI_toInt (by omega)]
  omega)
set_option maxRecDepth 20000 in
theorem ggX9_sheet_X9_isSheet : GoodIn wsX9_sheet wsX9_isSheet := goodIn_r _ [5] rfl (by decide +kernel)
set_option maxRecDepth 20000 in
theorem gX9_sheet_X9_isSheet : GoodIn wsX9_sheet (va_wsS RX9 266 yX9_isSheet wsX9_isSheet) := goodIn_app (goodIn_of _ (by decide +kernel)) ggX9_sheet_X9_isSheet
set_option maxRecDepth 20000 in
theorem ggX9_sheet_X9_isLane : GoodIn wsX9_sheet wsX9_isLane := goodIn_r _ [8] rfl (by decide +kernel)
set_option maxRecDepth 20000 in
theorem gX9_sheet_X9_isLane : GoodIn wsX9_sheet (va_wsS RX9 269 yX9_isLane wsX9_isLane) := goodIn_app (goodIn_of _ (by decide +kernel)) ggX9_sheet_X9_isLane
set_option maxRecDepth 20000 in
theorem ggX9_sheet_X5_renew : GoodIn wsX9_sheet wsX5_renew := goodIn_r _ [13, 14, 15, 16, 17, 18, 19, 20, 30, 31, 32] rfl (by decide +kernel)
set_option maxRecDepth 20000 in
theorem gX9_sheet_X5_renew : GoodIn wsX9_sheet (wsV RX9 272 RX5 yX5_renew wsX5_renew) := goodIn_app (goodIn_of _ (by decide +kernel)) ggX9_sheet_X5_renew
theorem bdX9_sheet_0 : (decode cX9_sheet 0 = .ok (.iload_n 1, 1)) ∧ (decode cX9_sheet 1 = .ok (.invokestatic 266, 3)) ∧ (decode cX9_sheet 4 = .ok (.ifCond .eq 16, 3)) ∧ (decode cX9_sheet 7 = .ok (.iload_n 2, 1)) ∧ (decode cX9_sheet 8 = .ok (.invokestatic 269, 3)) ∧ (decode cX9_sheet 11 = .ok (.ifCond .eq 9, 3)) ∧ (decode cX9_sheet 14 = .ok (.iload_n 3, 1)) ∧ (decode cX9_sheet 15 = .ok (.bipush 25, 2)) ∧ (decode cX9_sheet 17 = .ok (.if_icmp .le 5, 3)) ∧ (decode cX9_sheet 20 = .ok (.iconst (-1), 1)) ∧ (decode cX9_sheet 21 = .ok (.ireturn, 1)) ∧ (decode cX9_sheet 22 = .ok (.iload_n 3, 1)) ∧ (decode cX9_sheet 23 = .ok (.ifCond .ge 6, 3)) ∧ (decode cX9_sheet 26 = .ok (.bipush (-14), 2)) ∧ (decode cX9_sheet 28 = .ok (.ireturn, 1)) ∧ (decode cX9_sheet 29 = .ok (.aload_n 0, 1)) := by decide +kernel
theorem dX9_sheet_0 : decode cX9_sheet 0 = .ok (.iload_n 1, 1) := bdX9_sheet_0.1
theorem dX9_sheet_1 : decode cX9_sheet 1 = .ok (.invokestatic 266, 3) := bdX9_sheet_0.2.1
theorem dX9_sheet_4 : decode cX9_sheet 4 = .ok (.ifCond .eq 16, 3) := bdX9_sheet_0.2.2.1
theorem dX9_sheet_7 : decode cX9_sheet 7 = .ok (.iload_n 2, 1) := bdX9_sheet_0.2.2.2.1
theorem dX9_sheet_8 : decode cX9_sheet 8 = .ok (.invokestatic 269, 3) := bdX9_sheet_0.2.2.2.2.1
theorem dX9_sheet_11 : decode cX9_sheet 11 = .ok (.ifCond .eq 9, 3) := bdX9_sheet_0.2.2.2.2.2.1
theorem dX9_sheet_14 : decode cX9_sheet 14 = .ok (.iload_n 3, 1) := bdX9_sheet_0.2.2.2.2.2.2.1
theorem dX9_sheet_15 : decode cX9_sheet 15 = .ok (.bipush 25, 2) := bdX9_sheet_0.2.2.2.2.2.2.2.1
theorem dX9_sheet_17 : decode cX9_sheet 17 = .ok (.if_icmp .le 5, 3) := bdX9_sheet_0.2.2.2.2.2.2.2.2.1
theorem dX9_sheet_20 : decode cX9_sheet 20 = .ok (.iconst (-1), 1) := bdX9_sheet_0.2.2.2.2.2.2.2.2.2.1
theorem dX9_sheet_21 : decode cX9_sheet 21 = .ok (.ireturn, 1) := bdX9_sheet_0.2.2.2.2.2.2.2.2.2.2.1
theorem dX9_sheet_22 : decode cX9_sheet 22 = .ok (.iload_n 3, 1) := bdX9_sheet_0.2.2.2.2.2.2.2.2.2.2.2.1
theorem dX9_sheet_23 : decode cX9_sheet 23 = .ok (.ifCond .ge 6, 3) := bdX9_sheet_0.2.2.2.2.2.2.2.2.2.2.2.2.1
theorem dX9_sheet_26 : decode cX9_sheet 26 = .ok (.bipush (-14), 2) := bdX9_sheet_0.2.2.2.2.2.2.2.2.2.2.2.2.2.1
theorem dX9_sheet_28 : decode cX9_sheet 28 = .ok (.ireturn, 1) := bdX9_sheet_0.2.2.2.2.2.2.2.2.2.2.2.2.2.2.1
theorem dX9_sheet_29 : decode cX9_sheet 29 = .ok (.aload_n 0, 1) := bdX9_sheet_0.2.2.2.2.2.2.2.2.2.2.2.2.2.2.2
theorem bdX9_sheet_30 : (decode cX9_sheet 30 = .ok (.getfield 71, 3)) ∧ (decode cX9_sheet 33 = .ok (.iload_n 1, 1)) ∧ (decode cX9_sheet 34 = .ok (.aaload, 1)) ∧ (decode cX9_sheet 35 = .ok (.iload_n 2, 1)) ∧ (decode cX9_sheet 36 = .ok (.iload_n 3, 1)) ∧ (decode cX9_sheet 37 = .ok (.invokevirtual 272, 3)) ∧ (decode cX9_sheet 40 = .ok (.iload_n 3, 1)) ∧ (decode cX9_sheet 41 = .ok (.ireturn, 1)) := by decide +kernel
theorem dX9_sheet_30 : decode cX9_sheet 30 = .ok (.getfield 71, 3) := bdX9_sheet_30.1
theorem dX9_sheet_33 : decode cX9_sheet 33 = .ok (.iload_n 1, 1) := bdX9_sheet_30.2.1
theorem dX9_sheet_34 : decode cX9_sheet 34 = .ok (.aaload, 1) := bdX9_sheet_30.2.2.1
theorem dX9_sheet_35 : decode cX9_sheet 35 = .ok (.iload_n 2, 1) := bdX9_sheet_30.2.2.2.1
theorem dX9_sheet_36 : decode cX9_sheet 36 = .ok (.iload_n 3, 1) := bdX9_sheet_30.2.2.2.2.1
theorem dX9_sheet_37 : decode cX9_sheet 37 = .ok (.invokevirtual 272, 3) := bdX9_sheet_30.2.2.2.2.2.1
theorem dX9_sheet_40 : decode cX9_sheet 40 = .ok (.iload_n 3, 1) := bdX9_sheet_30.2.2.2.2.2.2.1
theorem dX9_sheet_41 : decode cX9_sheet 41 = .ok (.ireturn, 1) := bdX9_sheet_30.2.2.2.2.2.2.2
set_option maxHeartbeats 4000000 in
set_option maxRecDepth 100000 in
theorem k_X9_sheet (l : Launch) (dC : Nat → ClassId) (dI : Nat → Nat → Nat) (h : Nat → Nat) (cs : Nat → ClassId) (sz : Nat) (I : Nat → Int32) (L : Nat → Int64) (A : Nat → Nat → Int32) (Q : Nat → Nat → Int64) (G : Nat → Nat → Nat → Int32) (J : Nat → Nat → Nat → Int64) (x y z : Int32) : Met l yX9_sheet wsX9_sheet ({ frames := 2, cells := 0, slots := 0, locals := 46 }) (va_Pc [.ref (h 100), .int x, .int y, .int z] (xPre (dC, dI) (wFS h cs I L A Q G J) (tysA cs) sz)) (va_Qi (fun (r : Int32) (u : CS) => ∃ i220 : Int32, ∃ i224 : Int32, ∃ q228 : Nat → Int64, ∃ i221 : Int32, ∃ i225 : Int32, ∃ q229 : Nat → Int64, ∃ i222 : Int32, ∃ i226 : Int32, ∃ q230 : Nat → Int64, ∃ i223 : Int32, ∃ i227 : Int32, ∃ q231 : Nat → Int64, ((∃ s v n : Nat, s < 4 ∧ v < 3 ∧ n ≤ 25 ∧ x = nI s ∧ y = nI v ∧ z = nI n ∧ r = nI n ∧ i220 = (if s = 0 then nI v else I 220) ∧ i224 = (if s = 0 then nI n else I 224) ∧ (s = 0 → ∀ t : Nat, t < 25 → q228 t = 0) ∧ (¬ s = 0 → q228 = Q 228) ∧ i221 = (if s = 1 then nI v else I 221) ∧ i225 = (if s = 1 then nI n else I 225) ∧ (s = 1 → ∀ t : Nat, t < 25 → q229 t = 0) ∧ (¬ s = 1 → q229 = Q 229) ∧ i222 = (if s = 2 then nI v else I 222) ∧ i226 = (if s = 2 then nI n else I 226) ∧ (s = 2 → ∀ t : Nat, t < 25 → q230 t = 0) ∧ (¬ s = 2 → q230 = Q 230) ∧ i223 = (if s = 3 then nI v else I 223) ∧ i227 = (if s = 3 then nI n else I 227) ∧ (s = 3 → ∀ t : Nat, t < 25 → q231 t = 0) ∧ (¬ s = 3 → q231 = Q 231)) ∨ (r = -14 ∧ (∃ s v : Nat, s < 4 ∧ v < 3 ∧ x = nI s ∧ y = nI v) ∧ z < 0 ∧ i220 = I 220 ∧ i221 = I 221 ∧ i222 = I 222 ∧ i223 = I 223 ∧ i224 = I 224 ∧ i225 = I 225 ∧ i226 = I 226 ∧ i227 = I 227 ∧ q228 = Q 228 ∧ q229 = Q 229 ∧ q230 = Q 230 ∧ q231 = Q 231) ∨ (r = -1 ∧ (∀ s v : Nat, s < 4 → v < 3 → x = nI s → y = nI v → z ≤ nI 25 → False) ∧ i220 = I 220 ∧ i221 = I 221 ∧ i222 = I 222 ∧ i223 = I 223 ∧ i224 = I 224 ∧ i225 = I 225 ∧ i226 = I 226 ∧ i227 = I 227 ∧ q228 = Q 228 ∧ q229 = Q 229 ∧ q230 = Q 230 ∧ q231 = Q 231)) ∧ u = ((va_up (va_up (va_up (va_up (va_up (va_up (va_up (va_up I 220 i220) 224 i224) 221 i221) 225 i225) 222 i222) 226 i226) 223 i223) 227 i227), L, A, (va_up (va_up (va_up (va_up Q 228 q228) 229 q229) 230 q230) 231 q231), G, J)) (xB (dC, dI) (tysA cs) (va_A (wFS h cs I L A Q G J) sz) (fun u : CS => wFS h cs u.1 u.2.1 u.2.2.1 u.2.2.2.1 u.2.2.2.2.1 u.2.2.2.2.2)) (va_A (wFS h cs I L A Q G J) sz)) 0 0 (va_A (wFS h cs I L A Q G J) sz) := by
  refine Met.ofW (cc := cX9_sheet) (maxL := 4) (ret := (some .int)) (by decide) rfl ?_
  intro p e s m args below meth c s₁ B hml hv
  obtain ⟨rfl, hsz, hP, hK, hD0, hN⟩ := hv
  have hx := B.exec
  have hb := B.bytes
  have hr := B.returns
  have hts := atoms_spec (ws := wsX9_sheet) B.pre
  have hown : s.vm.findClass RX9 = some m.cls := findClass_of_methodNamed B.named
  have hlocks := B.notSynchronized
  subst hsz
  have hD := hD0.self (sz := s.heap.size)
  generalize hAe : va_A (wFS h cs I L A Q G J) s.heap.size = A0 at hD ⊢
  have hA : ∀ q : Nat, s.heap.size ≤ q → A0 q := fun q h => by rw [← hAe]; exact Or.inr h
  have hl := lv_entry ([.ref (h 100), .int x, .int y, .int z]) (n := 4) (Nat.le_of_ble_eq_true rfl)
  rw [lg_entry_eq]
  generalize (lg_sl ([.ref (h 100), .int x, .int y, .int z]) ++ List.replicate (4 - (lg_sl ([.ref (h 100), .int x, .int y, .int z])).length) Slot.unset).toArray = ls at hl ⊢
  have hl : lv_has ls 4 [(0, .ref (h 100)), (1, .int x), (2, .int y), (3, .int z)] := hl
  generalize hH : s.heap = H at hP ⊢
  have hS : va_S A0 s.heap H [] := by rw [← hH]; exact va_S.rf
  have hinX9 : ∀ w ∈ wsX90, w ∈ wsX9_sheet := by decide +kernel
  refine lv_iload_n hx hb dX9_sheet_0 rfl (lv_at hl 1 rfl) ?_
  refine xj_i (wc := ([] : va_W)) (wr := (wFS h cs I L A Q G J)) hP hD hS hA [] [0, 1, 2, 3, 4, 5, 6, 7, 8, 9] rfl rfl (by decide +kernel) (by decide +kernel) (va_runS (As := [.int x]) (rest := []) ⟨hx, hb, hml, hown, hts⟩ (k_X9_isSheet l dC dI h cs H.size I L A Q G J x) (va_cwS 1 hts gX9_sheet_X9_isSheet rfl rfl rfl (by decide +kernel) ⟨Nat.le_of_ble_eq_true rfl, Nat.le_of_ble_eq_true rfl⟩) (xpS (wc := ([] : va_W)) hP hD hK hN [] rfl (by decide) _) rfl rfl hl.1 rfl (lv_room (Nat.le_of_ble_eq_true rfl)) dX9_sheet_1 ⟨Nat.zero_le _, Nat.zero_le _⟩) (fun r_2 u_1 H locs hw hP hD hS => ?_)
  obtain ⟨hf_3, rfl⟩ := hw
  have hP : va_P (dC, dI) vwCl (wFS h cs I L A Q G J) H := hP
  have hD : va_D A0 (wFS h cs I L A Q G J) := hD
  rcases hf_3 with ⟨rfl, is9, his9, hxs9⟩ | ⟨rfl, hns9⟩
  · skip
    rcases (show is9 = 0 ∨ is9 = 1 ∨ is9 = 2 ∨ is9 = 3 by omega) with rfl | rfl | rfl | rfl
    · skip
      rw [hxs9] at hl
      refine lv_if_eq (tgt := 20) hx hb dX9_sheet_4 (by decide) (fun c9 => False.elim (by revert c9; decide +kernel)) (fun _ => ?_)
      refine lv_iload_n hx hb dX9_sheet_7 rfl (lv_at hl 2 rfl) ?_
      refine xj_i (wc := ([] : va_W)) (wr := (wFS h cs I L A Q G J)) hP hD hS hA [] [0, 1, 2, 3, 4, 5, 6, 7, 8, 9] rfl rfl (by decide +kernel) (by decide +kernel) (va_runS (As := [.int y]) (rest := []) ⟨hx, hb, hml, hown, hts⟩ (k_X9_isLane l dC dI h cs H.size I L A Q G J y) (va_cwS 1 hts gX9_sheet_X9_isLane rfl rfl rfl (by decide +kernel) ⟨Nat.le_of_ble_eq_true rfl, Nat.le_of_ble_eq_true rfl⟩) (xpS (wc := ([] : va_W)) hP hD hK hN [] rfl (by decide) _) rfl rfl hl.1 rfl (lv_room (Nat.le_of_ble_eq_true rfl)) dX9_sheet_8 ⟨Nat.zero_le _, Nat.zero_le _⟩) (fun r_5 u_4 H locs hw hP hD hS => ?_)
      obtain ⟨hf_6, rfl⟩ := hw
      have hP : va_P (dC, dI) vwCl (wFS h cs I L A Q G J) H := hP
      have hD : va_D A0 (wFS h cs I L A Q G J) := hD
      rcases hf_6 with ⟨rfl, i_7, hi_8, hx_9⟩ | ⟨rfl, hn_10⟩
      · skip
        rw [hx_9] at hl
        refine lv_if_eq (tgt := 20) hx hb dX9_sheet_11 (by decide) (fun c9 => False.elim (by revert c9; decide +kernel)) (fun _ => ?_)
        refine lv_iload_n hx hb dX9_sheet_14 rfl (lv_at hl 3 rfl) ?_
        refine lv_bipush (v := nI 25) hx hb dX9_sheet_15 (by decide) ?_
        refine lv_icmp_le (tgt := 22) hx hb dX9_sheet_17 (by decide) (fun c_17_10 => ?_) (fun c_17_10 => ?_)
        · skip
          refine lv_iload_n hx hb dX9_sheet_22 rfl (lv_at hl 3 rfl) ?_
          refine lv_if_ge (tgt := 29) hx hb dX9_sheet_23 (by decide) (fun c_23_11 => ?_) (fun c_23_11 => ?_)
          · skip
            obtain ⟨n9, h1n9, h2n9, hxn9⟩ := rgN (x := z) (lo := 0) (hi := 25) (by omega) (by omega) (by first | assumption | exact Int32.not_lt.mpr (by assumption)) (by first | assumption | exact Int32.not_lt.mpr (by assumption))
            rw [hxn9] at hl
            refine lv_aload_n hx hb dX9_sheet_29 rfl (lv_at hl 0 rfl) ?_
            refine va_get (D := (dC, dI)) (ci := 9) (v := .ref (h 109)) (C := RX9) (T := TX9) (N := 9) hx hb hts hinX9 hown hK hP 0 rfl rfl 8 (by decide) (hts (.fieldLink RX9 71 "MixedWords" "sheets" "[LMixedWords$Sheet;") (by decide +kernel)) (fun _ h9 => h9) rfl dX9_sheet_30 ?_
            refine lv_iload_n hx hb dX9_sheet_33 rfl (lv_at hl 1 rfl) ?_
            refine xa_aald (b := h 110) hx hb hK hP 1 5 rfl rfl rfl (by omega) (by decide) (if_pos (by omega)) dX9_sheet_34 ?_
            refine lv_iload_n hx hb dX9_sheet_35 rfl (lv_at hl 2 rfl) ?_
            refine lv_iload_n hx hb dX9_sheet_36 rfl (lv_at hl 3 rfl) ?_
            refine xj_v (wc := (wSheet (fun k => h (k + 0)) cs (fun k => I (k + 0)) L A (fun k => Q (k + 0)) G J)) (wr := [(h 100, .inr (9, [.ref (h 101), .ref (h 102), .ref (h 103), .ref (h 104), .ref (h 105), .ref (h 106), .ref (h 107), .ref (h 108), .ref (h 109)])), (h 109, .inl (cs 5, 4, .inr (.inr (.inr (.inr (fun i => if i < 4 then some (h (i + 110)) else none)))))), (h 111, .inr (5, [.int (I 221), .int (I 225), .ref (h 229)])), (h 229, .inl (cs 1, 25, .inr (.inl (Q 229)))), (h 112, .inr (5, [.int (I 222), .int (I 226), .ref (h 230)])), (h 230, .inl (cs 1, 25, .inr (.inl (Q 230)))), (h 113, .inr (5, [.int (I 223), .int (I 227), .ref (h 231)])), (h 231, .inl (cs 1, 25, .inr (.inl (Q 231))))]) hP hD hS hA [2, 3] [0, 1, 4, 5, 6, 7, 8, 9] rfl rfl (by decide +kernel) (by decide +kernel) (va_runV (As := [.int (nI i_7), .int (nI n9)]) (rest := []) ⟨hx, hb, hml, hown, hts⟩ (k_X5_renew l dC dI (fun k => h (k + 0)) cs H.size (fun k => I (k + 0)) L A (fun k => Q (k + 0)) G J (nI i_7) (nI n9)) (cwV 2 hts gX9_sheet_X5_renew rfl rfl rfl (by decide +kernel) ⟨Nat.le_of_ble_eq_true rfl, Nat.le_of_ble_eq_true rfl⟩) (xpV (wc := (wSheet (fun k => h (k + 0)) cs (fun k => I (k + 0)) L A (fun k => Q (k + 0)) G J)) hP hD hK hN [2, 3] rfl (by decide) 2 (ci := 5) rfl rfl _) rfl rfl hl.1 rfl (lv_room (Nat.le_of_ble_eq_true rfl)) dX9_sheet_37 ⟨Nat.zero_le _, Nat.zero_le _⟩) (fun u_13 H locs hw hP hD hS => ?_)
            obtain ⟨i220_15, i224_16, q228_17, hf_18, rfl⟩ := hw
            have hP : va_P (dC, dI) vwCl (wFS h cs (va_up (va_up I 220 i220_15) 224 i224_16) L A (va_up Q 228 q228_17) G J) H := xP_sub hP [0, 1, 8, 9, 2, 3, 4, 5, 6, 7] rfl
            have hD : va_D A0 (wFS h cs (va_up (va_up I 220 i220_15) 224 i224_16) L A (va_up Q 228 q228_17) G J) := hD.sub [0, 1, 8, 9, 2, 3, 4, 5, 6, 7] (by decide +kernel) rfl
            obtain ⟨hzz_19, rfl, rfl⟩ := hf_18
            refine lv_iload_n hx hb dX9_sheet_40 rfl (lv_at hl 3 rfl) ?_
            exact xr_i (v := (nI n9)) hx hb hr hlocks hK hS dX9_sheet_41 ((va_up (va_up (va_up (va_up (va_up (va_up (va_up (va_up I 220 (nI i_7)) 224 (nI n9)) 221 (I 221)) 225 (I 225)) 222 (I 222)) 226 (I 226)) 223 (I 223)) 227 (I 227)), L, A, (va_up (va_up (va_up (va_up Q 228 q228_17) 229 (Q 229)) 230 (Q 230)) 231 (Q 231)), G, J) ⟨(nI i_7), (nI n9), q228_17, (I 221), (I 225), (Q 229), (I 222), (I 226), (Q 230), (I 223), (I 227), (Q 231), (Or.inl ⟨0, i_7, n9, by omega, hi_8, h2n9, hxs9, hx_9, hxn9, rfl, rfl, rfl, fun _ => hzz_19, fun q9 => absurd rfl q9, rfl, rfl, fun q9 => absurd q9 (by decide), fun _ => rfl, rfl, rfl, fun q9 => absurd q9 (by decide), fun _ => rfl, rfl, rfl, fun q9 => absurd q9 (by decide), fun _ => rfl⟩), rfl⟩ hP hD
          · skip
            refine lv_bipush (v := (-14)) hx hb dX9_sheet_26 (by decide) ?_
            exact xr_i (v := (-14)) hx hb hr hlocks hK hS dX9_sheet_28 ((va_up (va_up (va_up (va_up (va_up (va_up (va_up (va_up I 220 (I 220)) 224 (I 224)) 221 (I 221)) 225 (I 225)) 222 (I 222)) 226 (I 226)) 223 (I 223)) 227 (I 227)), L, A, (va_up (va_up (va_up (va_up Q 228 (Q 228)) 229 (Q 229)) 230 (Q 230)) 231 (Q 231)), G, J) ⟨(I 220), (I 224), (Q 228), (I 221), (I 225), (Q 229), (I 222), (I 226), (Q 230), (I 223), (I 227), (Q 231), (Or.inr (Or.inl ⟨rfl, ⟨0, i_7, by omega, hi_8, hxs9, hx_9⟩, by first | assumption | exact Int32.not_le.mp (by assumption), rfl, rfl, rfl, rfl, rfl, rfl, rfl, rfl, rfl, rfl, rfl, rfl⟩)), rfl⟩ hP hD
        · skip
          refine lv_iconst (v := (-1)) hx hb dX9_sheet_20 (by decide) ?_
          exact xr_i (v := (-1)) hx hb hr hlocks hK hS dX9_sheet_21 ((va_up (va_up (va_up (va_up (va_up (va_up (va_up (va_up I 220 (I 220)) 224 (I 224)) 221 (I 221)) 225 (I 225)) 222 (I 222)) 226 (I 226)) 223 (I 223)) 227 (I 227)), L, A, (va_up (va_up (va_up (va_up Q 228 (Q 228)) 229 (Q 229)) 230 (Q 230)) 231 (Q 231)), G, J) ⟨(I 220), (I 224), (Q 228), (I 221), (I 225), (Q 229), (I 222), (I 226), (Q 230), (I 223), (I 227), (Q 231), (Or.inr (Or.inr ⟨rfl, fun s v a9 b9 c9 d9 e9 => by first | exact absurd c9 (hns9 s a9) | exact absurd d9 (hns9 v b9) | contradiction, rfl, rfl, rfl, rfl, rfl, rfl, rfl, rfl, rfl, rfl, rfl, rfl⟩)), rfl⟩ hP hD
      · skip
        refine lv_if_eq (tgt := 20) hx hb dX9_sheet_11 (by decide) (fun _ => ?_) (fun c9 => False.elim (by revert c9; decide +kernel))
        refine lv_iconst (v := (-1)) hx hb dX9_sheet_20 (by decide) ?_
        exact xr_i (v := (-1)) hx hb hr hlocks hK hS dX9_sheet_21 ((va_up (va_up (va_up (va_up (va_up (va_up (va_up (va_up I 220 (I 220)) 224 (I 224)) 221 (I 221)) 225 (I 225)) 222 (I 222)) 226 (I 226)) 223 (I 223)) 227 (I 227)), L, A, (va_up (va_up (va_up (va_up Q 228 (Q 228)) 229 (Q 229)) 230 (Q 230)) 231 (Q 231)), G, J) ⟨(I 220), (I 224), (Q 228), (I 221), (I 225), (Q 229), (I 222), (I 226), (Q 230), (I 223), (I 227), (Q 231), (Or.inr (Or.inr ⟨rfl, fun s v a9 b9 c9 d9 e9 => by first | exact absurd c9 (hns9 s a9) | exact absurd d9 (hn_10 v b9) | contradiction, rfl, rfl, rfl, rfl, rfl, rfl, rfl, rfl, rfl, rfl, rfl, rfl⟩)), rfl⟩ hP hD
    · skip
      rw [hxs9] at hl
      refine lv_if_eq (tgt := 20) hx hb dX9_sheet_4 (by decide) (fun c9 => False.elim (by revert c9; decide +kernel)) (fun _ => ?_)
      refine lv_iload_n hx hb dX9_sheet_7 rfl (lv_at hl 2 rfl) ?_
      refine xj_i (wc := ([] : va_W)) (wr := (wFS h cs I L A Q G J)) hP hD hS hA [] [0, 1, 2, 3, 4, 5, 6, 7, 8, 9] rfl rfl (by decide +kernel) (by decide +kernel) (va_runS (As := [.int y]) (rest := []) ⟨hx, hb, hml, hown, hts⟩ (k_X9_isLane l dC dI h cs H.size I L A Q G J y) (va_cwS 1 hts gX9_sheet_X9_isLane rfl rfl rfl (by decide +kernel) ⟨Nat.le_of_ble_eq_true rfl, Nat.le_of_ble_eq_true rfl⟩) (xpS (wc := ([] : va_W)) hP hD hK hN [] rfl (by decide) _) rfl rfl hl.1 rfl (lv_room (Nat.le_of_ble_eq_true rfl)) dX9_sheet_8 ⟨Nat.zero_le _, Nat.zero_le _⟩) (fun r_21 u_20 H locs hw hP hD hS => ?_)
      obtain ⟨hf_22, rfl⟩ := hw
      have hP : va_P (dC, dI) vwCl (wFS h cs I L A Q G J) H := hP
      have hD : va_D A0 (wFS h cs I L A Q G J) := hD
      rcases hf_22 with ⟨rfl, i_23, hi_24, hx_25⟩ | ⟨rfl, hn_26⟩
      · skip
        rw [hx_25] at hl
        refine lv_if_eq (tgt := 20) hx hb dX9_sheet_11 (by decide) (fun c9 => False.elim (by revert c9; decide +kernel)) (fun _ => ?_)
        refine lv_iload_n hx hb dX9_sheet_14 rfl (lv_at hl 3 rfl) ?_
        refine lv_bipush (v := nI 25) hx hb dX9_sheet_15 (by decide) ?_
        refine lv_icmp_le (tgt := 22) hx hb dX9_sheet_17 (by decide) (fun c_17_26 => ?_) (fun c_17_26 => ?_)
        · skip
          refine lv_iload_n hx hb dX9_sheet_22 rfl (lv_at hl 3 rfl) ?_
          refine lv_if_ge (tgt := 29) hx hb dX9_sheet_23 (by decide) (fun c_23_27 => ?_) (fun c_23_27 => ?_)
          · skip
            obtain ⟨n9, h1n9, h2n9, hxn9⟩ := rgN (x := z) (lo := 0) (hi := 25) (by omega) (by omega) (by first | assumption | exact Int32.not_lt.mpr (by assumption)) (by first | assumption | exact Int32.not_lt.mpr (by assumption))
            rw [hxn9] at hl
            refine lv_aload_n hx hb dX9_sheet_29 rfl (lv_at hl 0 rfl) ?_
            refine va_get (D := (dC, dI)) (ci := 9) (v := .ref (h 109)) (C := RX9) (T := TX9) (N := 9) hx hb hts hinX9 hown hK hP 0 rfl rfl 8 (by decide) (hts (.fieldLink RX9 71 "MixedWords" "sheets" "[LMixedWords$Sheet;") (by decide +kernel)) (fun _ h9 => h9) rfl dX9_sheet_30 ?_
            refine lv_iload_n hx hb dX9_sheet_33 rfl (lv_at hl 1 rfl) ?_
            refine xa_aald (b := h 111) hx hb hK hP 1 5 rfl rfl rfl (by omega) (by decide) (if_pos (by omega)) dX9_sheet_34 ?_
            refine lv_iload_n hx hb dX9_sheet_35 rfl (lv_at hl 2 rfl) ?_
            refine lv_iload_n hx hb dX9_sheet_36 rfl (lv_at hl 3 rfl) ?_
            refine xj_v (wc := (wSheet (fun k => h (k + 1)) cs (fun k => I (k + 1)) L A (fun k => Q (k + 1)) G J)) (wr := [(h 100, .inr (9, [.ref (h 101), .ref (h 102), .ref (h 103), .ref (h 104), .ref (h 105), .ref (h 106), .ref (h 107), .ref (h 108), .ref (h 109)])), (h 109, .inl (cs 5, 4, .inr (.inr (.inr (.inr (fun i => if i < 4 then some (h (i + 110)) else none)))))), (h 110, .inr (5, [.int (I 220), .int (I 224), .ref (h 228)])), (h 228, .inl (cs 1, 25, .inr (.inl (Q 228)))), (h 112, .inr (5, [.int (I 222), .int (I 226), .ref (h 230)])), (h 230, .inl (cs 1, 25, .inr (.inl (Q 230)))), (h 113, .inr (5, [.int (I 223), .int (I 227), .ref (h 231)])), (h 231, .inl (cs 1, 25, .inr (.inl (Q 231))))]) hP hD hS hA [4, 5] [0, 1, 2, 3, 6, 7, 8, 9] rfl rfl (by decide +kernel) (by decide +kernel) (va_runV (As := [.int (nI i_23), .int (nI n9)]) (rest := []) ⟨hx, hb, hml, hown, hts⟩ (k_X5_renew l dC dI (fun k => h (k + 1)) cs H.size (fun k => I (k + 1)) L A (fun k => Q (k + 1)) G J (nI i_23) (nI n9)) (cwV 2 hts gX9_sheet_X5_renew rfl rfl rfl (by decide +kernel) ⟨Nat.le_of_ble_eq_true rfl, Nat.le_of_ble_eq_true rfl⟩) (xpV (wc := (wSheet (fun k => h (k + 1)) cs (fun k => I (k + 1)) L A (fun k => Q (k + 1)) G J)) hP hD hK hN [4, 5] rfl (by decide) 4 (ci := 5) rfl rfl _) rfl rfl hl.1 rfl (lv_room (Nat.le_of_ble_eq_true rfl)) dX9_sheet_37 ⟨Nat.zero_le _, Nat.zero_le _⟩) (fun u_29 H locs hw hP hD hS => ?_)
            obtain ⟨i220_31, i224_32, q228_33, hf_34, rfl⟩ := hw
            have hP : va_P (dC, dI) vwCl (wFS h cs (va_up (va_up I 221 i220_31) 225 i224_32) L A (va_up Q 229 q228_33) G J) H := xP_sub hP [0, 1, 2, 3, 8, 9, 4, 5, 6, 7] rfl
            have hD : va_D A0 (wFS h cs (va_up (va_up I 221 i220_31) 225 i224_32) L A (va_up Q 229 q228_33) G J) := hD.sub [0, 1, 2, 3, 8, 9, 4, 5, 6, 7] (by decide +kernel) rfl
            obtain ⟨hzz_35, rfl, rfl⟩ := hf_34
            refine lv_iload_n hx hb dX9_sheet_40 rfl (lv_at hl 3 rfl) ?_
            exact xr_i (v := (nI n9)) hx hb hr hlocks hK hS dX9_sheet_41 ((va_up (va_up (va_up (va_up (va_up (va_up (va_up (va_up I 220 (I 220)) 224 (I 224)) 221 (nI i_23)) 225 (nI n9)) 222 (I 222)) 226 (I 226)) 223 (I 223)) 227 (I 227)), L, A, (va_up (va_up (va_up (va_up Q 228 (Q 228)) 229 q228_33) 230 (Q 230)) 231 (Q 231)), G, J) ⟨(I 220), (I 224), (Q 228), (nI i_23), (nI n9), q228_33, (I 222), (I 226), (Q 230), (I 223), (I 227), (Q 231), (Or.inl ⟨1, i_23, n9, by omega, hi_24, h2n9, hxs9, hx_25, hxn9, rfl, rfl, rfl, fun q9 => absurd q9 (by decide), fun _ => rfl, rfl, rfl, fun _ => hzz_35, fun q9 => absurd rfl q9, rfl, rfl, fun q9 => absurd q9 (by decide), fun _ => rfl, rfl, rfl, fun q9 => absurd q9 (by decide), fun _ => rfl⟩), rfl⟩ hP hD
          · skip
            refine lv_bipush (v := (-14)) hx hb dX9_sheet_26 (by decide) ?_
            exact xr_i (v := (-14)) hx hb hr hlocks hK hS dX9_sheet_28 ((va_up (va_up (va_up (va_up (va_up (va_up (va_up (va_up I 220 (I 220)) 224 (I 224)) 221 (I 221)) 225 (I 225)) 222 (I 222)) 226 (I 226)) 223 (I 223)) 227 (I 227)), L, A, (va_up (va_up (va_up (va_up Q 228 (Q 228)) 229 (Q 229)) 230 (Q 230)) 231 (Q 231)), G, J) ⟨(I 220), (I 224), (Q 228), (I 221), (I 225), (Q 229), (I 222), (I 226), (Q 230), (I 223), (I 227), (Q 231), (Or.inr (Or.inl ⟨rfl, ⟨1, i_23, by omega, hi_24, hxs9, hx_25⟩, by first | assumption | exact Int32.not_le.mp (by assumption), rfl, rfl, rfl, rfl, rfl, rfl, rfl, rfl, rfl, rfl, rfl, rfl⟩)), rfl⟩ hP hD
        · skip
          refine lv_iconst (v := (-1)) hx hb dX9_sheet_20 (by decide) ?_
          exact xr_i (v := (-1)) hx hb hr hlocks hK hS dX9_sheet_21 ((va_up (va_up (va_up (va_up (va_up (va_up (va_up (va_up I 220 (I 220)) 224 (I 224)) 221 (I 221)) 225 (I 225)) 222 (I 222)) 226 (I 226)) 223 (I 223)) 227 (I 227)), L, A, (va_up (va_up (va_up (va_up Q 228 (Q 228)) 229 (Q 229)) 230 (Q 230)) 231 (Q 231)), G, J) ⟨(I 220), (I 224), (Q 228), (I 221), (I 225), (Q 229), (I 222), (I 226), (Q 230), (I 223), (I 227), (Q 231), (Or.inr (Or.inr ⟨rfl, fun s v a9 b9 c9 d9 e9 => by first | exact absurd c9 (hns9 s a9) | exact absurd d9 (hns9 v b9) | contradiction, rfl, rfl, rfl, rfl, rfl, rfl, rfl, rfl, rfl, rfl, rfl, rfl⟩)), rfl⟩ hP hD
      · skip
        refine lv_if_eq (tgt := 20) hx hb dX9_sheet_11 (by decide) (fun _ => ?_) (fun c9 => False.elim (by revert c9; decide +kernel))
        refine lv_iconst (v := (-1)) hx hb dX9_sheet_20 (by decide) ?_
        exact xr_i (v := (-1)) hx hb hr hlocks hK hS dX9_sheet_21 ((va_up (va_up (va_up (va_up (va_up (va_up (va_up (va_up I 220 (I 220)) 224 (I 224)) 221 (I 221)) 225 (I 225)) 222 (I 222)) 226 (I 226)) 223 (I 223)) 227 (I 227)), L, A, (va_up (va_up (va_up (va_up Q 228 (Q 228)) 229 (Q 229)) 230 (Q 230)) 231 (Q 231)), G, J) ⟨(I 220), (I 224), (Q 228), (I 221), (I 225), (Q 229), (I 222), (I 226), (Q 230), (I 223), (I 227), (Q 231), (Or.inr (Or.inr ⟨rfl, fun s v a9 b9 c9 d9 e9 => by first | exact absurd c9 (hns9 s a9) | exact absurd d9 (hn_26 v b9) | contradiction, rfl, rfl, rfl, rfl, rfl, rfl, rfl, rfl, rfl, rfl, rfl, rfl⟩)), rfl⟩ hP hD
    · skip
      rw [hxs9] at hl
      refine lv_if_eq (tgt := 20) hx hb dX9_sheet_4 (by decide) (fun c9 => False.elim (by revert c9; decide +kernel)) (fun _ => ?_)
      refine lv_iload_n hx hb dX9_sheet_7 rfl (lv_at hl 2 rfl) ?_
      refine xj_i (wc := ([] : va_W)) (wr := (wFS h cs I L A Q G J)) hP hD hS hA [] [0, 1, 2, 3, 4, 5, 6, 7, 8, 9] rfl rfl (by decide +kernel) (by decide +kernel) (va_runS (As := [.int y]) (rest := []) ⟨hx, hb, hml, hown, hts⟩ (k_X9_isLane l dC dI h cs H.size I L A Q G J y) (va_cwS 1 hts gX9_sheet_X9_isLane rfl rfl rfl (by decide +kernel) ⟨Nat.le_of_ble_eq_true rfl, Nat.le_of_ble_eq_true rfl⟩) (xpS (wc := ([] : va_W)) hP hD hK hN [] rfl (by decide) _) rfl rfl hl.1 rfl (lv_room (Nat.le_of_ble_eq_true rfl)) dX9_sheet_8 ⟨Nat.zero_le _, Nat.zero_le _⟩) (fun r_37 u_36 H locs hw hP hD hS => ?_)
      obtain ⟨hf_38, rfl⟩ := hw
      have hP : va_P (dC, dI) vwCl (wFS h cs I L A Q G J) H := hP
      have hD : va_D A0 (wFS h cs I L A Q G J) := hD
      rcases hf_38 with ⟨rfl, i_39, hi_40, hx_41⟩ | ⟨rfl, hn_42⟩
      · skip
        rw [hx_41] at hl
        refine lv_if_eq (tgt := 20) hx hb dX9_sheet_11 (by decide) (fun c9 => False.elim (by revert c9; decide +kernel)) (fun _ => ?_)
        refine lv_iload_n hx hb dX9_sheet_14 rfl (lv_at hl 3 rfl) ?_
        refine lv_bipush (v := nI 25) hx hb dX9_sheet_15 (by decide) ?_
        refine lv_icmp_le (tgt := 22) hx hb dX9_sheet_17 (by decide) (fun c_17_42 => ?_) (fun c_17_42 => ?_)
        · skip
          refine lv_iload_n hx hb dX9_sheet_22 rfl (lv_at hl 3 rfl) ?_
          refine lv_if_ge (tgt := 29) hx hb dX9_sheet_23 (by decide) (fun c_23_43 => ?_) (fun c_23_43 => ?_)
          · skip
            obtain ⟨n9, h1n9, h2n9, hxn9⟩ := rgN (x := z) (lo := 0) (hi := 25) (by omega) (by omega) (by first | assumption | exact Int32.not_lt.mpr (by assumption)) (by first | assumption | exact Int32.not_lt.mpr (by assumption))
            rw [hxn9] at hl
            refine lv_aload_n hx hb dX9_sheet_29 rfl (lv_at hl 0 rfl) ?_
            refine va_get (D := (dC, dI)) (ci := 9) (v := .ref (h 109)) (C := RX9) (T := TX9) (N := 9) hx hb hts hinX9 hown hK hP 0 rfl rfl 8 (by decide) (hts (.fieldLink RX9 71 "MixedWords" "sheets" "[LMixedWords$Sheet;") (by decide +kernel)) (fun _ h9 => h9) rfl dX9_sheet_30 ?_
            refine lv_iload_n hx hb dX9_sheet_33 rfl (lv_at hl 1 rfl) ?_
            refine xa_aald (b := h 112) hx hb hK hP 1 5 rfl rfl rfl (by omega) (by decide) (if_pos (by omega)) dX9_sheet_34 ?_
            refine lv_iload_n hx hb dX9_sheet_35 rfl (lv_at hl 2 rfl) ?_
            refine lv_iload_n hx hb dX9_sheet_36 rfl (lv_at hl 3 rfl) ?_
            refine xj_v (wc := (wSheet (fun k => h (k + 2)) cs (fun k => I (k + 2)) L A (fun k => Q (k + 2)) G J)) (wr := [(h 100, .inr (9, [.ref (h 101), .ref (h 102), .ref (h 103), .ref (h 104), .ref (h 105), .ref (h 106), .ref (h 107), .ref (h 108), .ref (h 109)])), (h 109, .inl (cs 5, 4, .inr (.inr (.inr (.inr (fun i => if i < 4 then some (h (i + 110)) else none)))))), (h 110, .inr (5, [.int (I 220), .int (I 224), .ref (h 228)])), (h 228, .inl (cs 1, 25, .inr (.inl (Q 228)))), (h 111, .inr (5, [.int (I 221), .int (I 225), .ref (h 229)])), (h 229, .inl (cs 1, 25, .inr (.inl (Q 229)))), (h 113, .inr (5, [.int (I 223), .int (I 227), .ref (h 231)])), (h 231, .inl (cs 1, 25, .inr (.inl (Q 231))))]) hP hD hS hA [6, 7] [0, 1, 2, 3, 4, 5, 8, 9] rfl rfl (by decide +kernel) (by decide +kernel) (va_runV (As := [.int (nI i_39), .int (nI n9)]) (rest := []) ⟨hx, hb, hml, hown, hts⟩ (k_X5_renew l dC dI (fun k => h (k + 2)) cs H.size (fun k => I (k + 2)) L A (fun k => Q (k + 2)) G J (nI i_39) (nI n9)) (cwV 2 hts gX9_sheet_X5_renew rfl rfl rfl (by decide +kernel) ⟨Nat.le_of_ble_eq_true rfl, Nat.le_of_ble_eq_true rfl⟩) (xpV (wc := (wSheet (fun k => h (k + 2)) cs (fun k => I (k + 2)) L A (fun k => Q (k + 2)) G J)) hP hD hK hN [6, 7] rfl (by decide) 6 (ci := 5) rfl rfl _) rfl rfl hl.1 rfl (lv_room (Nat.le_of_ble_eq_true rfl)) dX9_sheet_37 ⟨Nat.zero_le _, Nat.zero_le _⟩) (fun u_45 H locs hw hP hD hS => ?_)
            obtain ⟨i220_47, i224_48, q228_49, hf_50, rfl⟩ := hw
            have hP : va_P (dC, dI) vwCl (wFS h cs (va_up (va_up I 222 i220_47) 226 i224_48) L A (va_up Q 230 q228_49) G J) H := xP_sub hP [0, 1, 2, 3, 4, 5, 8, 9, 6, 7] rfl
            have hD : va_D A0 (wFS h cs (va_up (va_up I 222 i220_47) 226 i224_48) L A (va_up Q 230 q228_49) G J) := hD.sub [0, 1, 2, 3, 4, 5, 8, 9, 6, 7] (by decide +kernel) rfl
            obtain ⟨hzz_51, rfl, rfl⟩ := hf_50
            refine lv_iload_n hx hb dX9_sheet_40 rfl (lv_at hl 3 rfl) ?_
            exact xr_i (v := (nI n9)) hx hb hr hlocks hK hS dX9_sheet_41 ((va_up (va_up (va_up (va_up (va_up (va_up (va_up (va_up I 220 (I 220)) 224 (I 224)) 221 (I 221)) 225 (I 225)) 222 (nI i_39)) 226 (nI n9)) 223 (I 223)) 227 (I 227)), L, A, (va_up (va_up (va_up (va_up Q 228 (Q 228)) 229 (Q 229)) 230 q228_49) 231 (Q 231)), G, J) ⟨(I 220), (I 224), (Q 228), (I 221), (I 225), (Q 229), (nI i_39), (nI n9), q228_49, (I 223), (I 227), (Q 231), (Or.inl ⟨2, i_39, n9, by omega, hi_40, h2n9, hxs9, hx_41, hxn9, rfl, rfl, rfl, fun q9 => absurd q9 (by decide), fun _ => rfl, rfl, rfl, fun q9 => absurd q9 (by decide), fun _ => rfl, rfl, rfl, fun _ => hzz_51, fun q9 => absurd rfl q9, rfl, rfl, fun q9 => absurd q9 (by decide), fun _ => rfl⟩), rfl⟩ hP hD
          · skip
            refine lv_bipush (v := (-14)) hx hb dX9_sheet_26 (by decide) ?_
            exact xr_i (v := (-14)) hx hb hr hlocks hK hS dX9_sheet_28 ((va_up (va_up (va_up (va_up (va_up (va_up (va_up (va_up I 220 (I 220)) 224 (I 224)) 221 (I 221)) 225 (I 225)) 222 (I 222)) 226 (I 226)) 223 (I 223)) 227 (I 227)), L, A, (va_up (va_up (va_up (va_up Q 228 (Q 228)) 229 (Q 229)) 230 (Q 230)) 231 (Q 231)), G, J) ⟨(I 220), (I 224), (Q 228), (I 221), (I 225), (Q 229), (I 222), (I 226), (Q 230), (I 223), (I 227), (Q 231), (Or.inr (Or.inl ⟨rfl, ⟨2, i_39, by omega, hi_40, hxs9, hx_41⟩, by first | assumption | exact Int32.not_le.mp (by assumption), rfl, rfl, rfl, rfl, rfl, rfl, rfl, rfl, rfl, rfl, rfl, rfl⟩)), rfl⟩ hP hD
        · skip
          refine lv_iconst (v := (-1)) hx hb dX9_sheet_20 (by decide) ?_
          exact xr_i (v := (-1)) hx hb hr hlocks hK hS dX9_sheet_21 ((va_up (va_up (va_up (va_up (va_up (va_up (va_up (va_up I 220 (I 220)) 224 (I 224)) 221 (I 221)) 225 (I 225)) 222 (I 222)) 226 (I 226)) 223 (I 223)) 227 (I 227)), L, A, (va_up (va_up (va_up (va_up Q 228 (Q 228)) 229 (Q 229)) 230 (Q 230)) 231 (Q 231)), G, J) ⟨(I 220), (I 224), (Q 228), (I 221), (I 225), (Q 229), (I 222), (I 226), (Q 230), (I 223), (I 227), (Q 231), (Or.inr (Or.inr ⟨rfl, fun s v a9 b9 c9 d9 e9 => by first | exact absurd c9 (hns9 s a9) | exact absurd d9 (hns9 v b9) | contradiction, rfl, rfl, rfl, rfl, rfl, rfl, rfl, rfl, rfl, rfl, rfl, rfl⟩)), rfl⟩ hP hD
      · skip
        refine lv_if_eq (tgt := 20) hx hb dX9_sheet_11 (by decide) (fun _ => ?_) (fun c9 => False.elim (by revert c9; decide +kernel))
        refine lv_iconst (v := (-1)) hx hb dX9_sheet_20 (by decide) ?_
        exact xr_i (v := (-1)) hx hb hr hlocks hK hS dX9_sheet_21 ((va_up (va_up (va_up (va_up (va_up (va_up (va_up (va_up I 220 (I 220)) 224 (I 224)) 221 (I 221)) 225 (I 225)) 222 (I 222)) 226 (I 226)) 223 (I 223)) 227 (I 227)), L, A, (va_up (va_up (va_up (va_up Q 228 (Q 228)) 229 (Q 229)) 230 (Q 230)) 231 (Q 231)), G, J) ⟨(I 220), (I 224), (Q 228), (I 221), (I 225), (Q 229), (I 222), (I 226), (Q 230), (I 223), (I 227), (Q 231), (Or.inr (Or.inr ⟨rfl, fun s v a9 b9 c9 d9 e9 => by first | exact absurd c9 (hns9 s a9) | exact absurd d9 (hn_42 v b9) | contradiction, rfl, rfl, rfl, rfl, rfl, rfl, rfl, rfl, rfl, rfl, rfl, rfl⟩)), rfl⟩ hP hD
    · skip
      rw [hxs9] at hl
      refine lv_if_eq (tgt := 20) hx hb dX9_sheet_4 (by decide) (fun c9 => False.elim (by revert c9; decide +kernel)) (fun _ => ?_)
      refine lv_iload_n hx hb dX9_sheet_7 rfl (lv_at hl 2 rfl) ?_
      refine xj_i (wc := ([] : va_W)) (wr := (wFS h cs I L A Q G J)) hP hD hS hA [] [0, 1, 2, 3, 4, 5, 6, 7, 8, 9] rfl rfl (by decide +kernel) (by decide +kernel) (va_runS (As := [.int y]) (rest := []) ⟨hx, hb, hml, hown, hts⟩ (k_X9_isLane l dC dI h cs H.size I L A Q G J y) (va_cwS 1 hts gX9_sheet_X9_isLane rfl rfl rfl (by decide +kernel) ⟨Nat.le_of_ble_eq_true rfl, Nat.le_of_ble_eq_true rfl⟩) (xpS (wc := ([] : va_W)) hP hD hK hN [] rfl (by decide) _) rfl rfl hl.1 rfl (lv_room (Nat.le_of_ble_eq_true rfl)) dX9_sheet_8 ⟨Nat.zero_le _, Nat.zero_le _⟩) (fun r_53 u_52 H locs hw hP hD hS => ?_)
      obtain ⟨hf_54, rfl⟩ := hw
      have hP : va_P (dC, dI) vwCl (wFS h cs I L A Q G J) H := hP
      have hD : va_D A0 (wFS h cs I L A Q G J) := hD
      rcases hf_54 with ⟨rfl, i_55, hi_56, hx_57⟩ | ⟨rfl, hn_58⟩
      · skip
        rw [hx_57] at hl
        refine lv_if_eq (tgt := 20) hx hb dX9_sheet_11 (by decide) (fun c9 => False.elim (by revert c9; decide +kernel)) (fun _ => ?_)
        refine lv_iload_n hx hb dX9_sheet_14 rfl (lv_at hl 3 rfl) ?_
        refine lv_bipush (v := nI 25) hx hb dX9_sheet_15 (by decide) ?_
        refine lv_icmp_le (tgt := 22) hx hb dX9_sheet_17 (by decide) (fun c_17_58 => ?_) (fun c_17_58 => ?_)
        · skip
          refine lv_iload_n hx hb dX9_sheet_22 rfl (lv_at hl 3 rfl) ?_
          refine lv_if_ge (tgt := 29) hx hb dX9_sheet_23 (by decide) (fun c_23_59 => ?_) (fun c_23_59 => ?_)
          · skip
            obtain ⟨n9, h1n9, h2n9, hxn9⟩ := rgN (x := z) (lo := 0) (hi := 25) (by omega) (by omega) (by first | assumption | exact Int32.not_lt.mpr (by assumption)) (by first | assumption | exact Int32.not_lt.mpr (by assumption))
            rw [hxn9] at hl
            refine lv_aload_n hx hb dX9_sheet_29 rfl (lv_at hl 0 rfl) ?_
            refine va_get (D := (dC, dI)) (ci := 9) (v := .ref (h 109)) (C := RX9) (T := TX9) (N := 9) hx hb hts hinX9 hown hK hP 0 rfl rfl 8 (by decide) (hts (.fieldLink RX9 71 "MixedWords" "sheets" "[LMixedWords$Sheet;") (by decide +kernel)) (fun _ h9 => h9) rfl dX9_sheet_30 ?_
            refine lv_iload_n hx hb dX9_sheet_33 rfl (lv_at hl 1 rfl) ?_
            refine xa_aald (b := h 113) hx hb hK hP 1 5 rfl rfl rfl (by omega) (by decide) (if_pos (by omega)) dX9_sheet_34 ?_
            refine lv_iload_n hx hb dX9_sheet_35 rfl (lv_at hl 2 rfl) ?_
            refine lv_iload_n hx hb dX9_sheet_36 rfl (lv_at hl 3 rfl) ?_
            refine xj_v (wc := (wSheet (fun k => h (k + 3)) cs (fun k => I (k + 3)) L A (fun k => Q (k + 3)) G J)) (wr := [(h 100, .inr (9, [.ref (h 101), .ref (h 102), .ref (h 103), .ref (h 104), .ref (h 105), .ref (h 106), .ref (h 107), .ref (h 108), .ref (h 109)])), (h 109, .inl (cs 5, 4, .inr (.inr (.inr (.inr (fun i => if i < 4 then some (h (i + 110)) else none)))))), (h 110, .inr (5, [.int (I 220), .int (I 224), .ref (h 228)])), (h 228, .inl (cs 1, 25, .inr (.inl (Q 228)))), (h 111, .inr (5, [.int (I 221), .int (I 225), .ref (h 229)])), (h 229, .inl (cs 1, 25, .inr (.inl (Q 229)))), (h 112, .inr (5, [.int (I 222), .int (I 226), .ref (h 230)])), (h 230, .inl (cs 1, 25, .inr (.inl (Q 230))))]) hP hD hS hA [8, 9] [0, 1, 2, 3, 4, 5, 6, 7] rfl rfl (by decide +kernel) (by decide +kernel) (va_runV (As := [.int (nI i_55), .int (nI n9)]) (rest := []) ⟨hx, hb, hml, hown, hts⟩ (k_X5_renew l dC dI (fun k => h (k + 3)) cs H.size (fun k => I (k + 3)) L A (fun k => Q (k + 3)) G J (nI i_55) (nI n9)) (cwV 2 hts gX9_sheet_X5_renew rfl rfl rfl (by decide +kernel) ⟨Nat.le_of_ble_eq_true rfl, Nat.le_of_ble_eq_true rfl⟩) (xpV (wc := (wSheet (fun k => h (k + 3)) cs (fun k => I (k + 3)) L A (fun k => Q (k + 3)) G J)) hP hD hK hN [8, 9] rfl (by decide) 8 (ci := 5) rfl rfl _) rfl rfl hl.1 rfl (lv_room (Nat.le_of_ble_eq_true rfl)) dX9_sheet_37 ⟨Nat.zero_le _, Nat.zero_le _⟩) (fun u_61 H locs hw hP hD hS => ?_)
            obtain ⟨i220_63, i224_64, q228_65, hf_66, rfl⟩ := hw
            have hP : va_P (dC, dI) vwCl (wFS h cs (va_up (va_up I 223 i220_63) 227 i224_64) L A (va_up Q 231 q228_65) G J) H := hP
            have hD : va_D A0 (wFS h cs (va_up (va_up I 223 i220_63) 227 i224_64) L A (va_up Q 231 q228_65) G J) := hD
            obtain ⟨hzz_67, rfl, rfl⟩ := hf_66
            refine lv_iload_n hx hb dX9_sheet_40 rfl (lv_at hl 3 rfl) ?_
            exact xr_i (v := (nI n9)) hx hb hr hlocks hK hS dX9_sheet_41 ((va_up (va_up (va_up (va_up (va_up (va_up (va_up (va_up I 220 (I 220)) 224 (I 224)) 221 (I 221)) 225 (I 225)) 222 (I 222)) 226 (I 226)) 223 (nI i_55)) 227 (nI n9)), L, A, (va_up (va_up (va_up (va_up Q 228 (Q 228)) 229 (Q 229)) 230 (Q 230)) 231 q228_65), G, J) ⟨(I 220), (I 224), (Q 228), (I 221), (I 225), (Q 229), (I 222), (I 226), (Q 230), (nI i_55), (nI n9), q228_65, (Or.inl ⟨3, i_55, n9, by omega, hi_56, h2n9, hxs9, hx_57, hxn9, rfl, rfl, rfl, fun q9 => absurd q9 (by decide), fun _ => rfl, rfl, rfl, fun q9 => absurd q9 (by decide), fun _ => rfl, rfl, rfl, fun q9 => absurd q9 (by decide), fun _ => rfl, rfl, rfl, fun _ => hzz_67, fun q9 => absurd rfl q9⟩), rfl⟩ hP hD
          · skip
            refine lv_bipush (v := (-14)) hx hb dX9_sheet_26 (by decide) ?_
            exact xr_i (v := (-14)) hx hb hr hlocks hK hS dX9_sheet_28 ((va_up (va_up (va_up (va_up (va_up (va_up (va_up (va_up I 220 (I 220)) 224 (I 224)) 221 (I 221)) 225 (I 225)) 222 (I 222)) 226 (I 226)) 223 (I 223)) 227 (I 227)), L, A, (va_up (va_up (va_up (va_up Q 228 (Q 228)) 229 (Q 229)) 230 (Q 230)) 231 (Q 231)), G, J) ⟨(I 220), (I 224), (Q 228), (I 221), (I 225), (Q 229), (I 222), (I 226), (Q 230), (I 223), (I 227), (Q 231), (Or.inr (Or.inl ⟨rfl, ⟨3, i_55, by omega, hi_56, hxs9, hx_57⟩, by first | assumption | exact Int32.not_le.mp (by assumption), rfl, rfl, rfl, rfl, rfl, rfl, rfl, rfl, rfl, rfl, rfl, rfl⟩)), rfl⟩ hP hD
        · skip
          refine lv_iconst (v := (-1)) hx hb dX9_sheet_20 (by decide) ?_
          exact xr_i (v := (-1)) hx hb hr hlocks hK hS dX9_sheet_21 ((va_up (va_up (va_up (va_up (va_up (va_up (va_up (va_up I 220 (I 220)) 224 (I 224)) 221 (I 221)) 225 (I 225)) 222 (I 222)) 226 (I 226)) 223 (I 223)) 227 (I 227)), L, A, (va_up (va_up (va_up (va_up Q 228 (Q 228)) 229 (Q 229)) 230 (Q 230)) 231 (Q 231)), G, J) ⟨(I 220), (I 224), (Q 228), (I 221), (I 225), (Q 229), (I 222), (I 226), (Q 230), (I 223), (I 227), (Q 231), (Or.inr (Or.inr ⟨rfl, fun s v a9 b9 c9 d9 e9 => by first | exact absurd c9 (hns9 s a9) | exact absurd d9 (hns9 v b9) | contradiction, rfl, rfl, rfl, rfl, rfl, rfl, rfl, rfl, rfl, rfl, rfl, rfl⟩)), rfl⟩ hP hD
      · skip
        refine lv_if_eq (tgt := 20) hx hb dX9_sheet_11 (by decide) (fun _ => ?_) (fun c9 => False.elim (by revert c9; decide +kernel))
        refine lv_iconst (v := (-1)) hx hb dX9_sheet_20 (by decide) ?_
        exact xr_i (v := (-1)) hx hb hr hlocks hK hS dX9_sheet_21 ((va_up (va_up (va_up (va_up (va_up (va_up (va_up (va_up I 220 (I 220)) 224 (I 224)) 221 (I 221)) 225 (I 225)) 222 (I 222)) 226 (I 226)) 223 (I 223)) 227 (I 227)), L, A, (va_up (va_up (va_up (va_up Q 228 (Q 228)) 229 (Q 229)) 230 (Q 230)) 231 (Q 231)), G, J) ⟨(I 220), (I 224), (Q 228), (I 221), (I 225), (Q 229), (I 222), (I 226), (Q 230), (I 223), (I 227), (Q 231), (Or.inr (Or.inr ⟨rfl, fun s v a9 b9 c9 d9 e9 => by first | exact absurd c9 (hns9 s a9) | exact absurd d9 (hn_58 v b9) | contradiction, rfl, rfl, rfl, rfl, rfl, rfl, rfl, rfl, rfl, rfl, rfl, rfl⟩)), rfl⟩ hP hD
  · skip
    refine lv_if_eq (tgt := 20) hx hb dX9_sheet_4 (by decide) (fun _ => ?_) (fun c9 => False.elim (by revert c9; decide +kernel))
    refine lv_iconst (v := (-1)) hx hb dX9_sheet_20 (by decide) ?_
    exact xr_i (v := (-1)) hx hb hr hlocks hK hS dX9_sheet_21 ((va_up (va_up (va_up (va_up (va_up (va_up (va_up (va_up I 220 (I 220)) 224 (I 224)) 221 (I 221)) 225 (I 225)) 222 (I 222)) 226 (I 226)) 223 (I 223)) 227 (I 227)), L, A, (va_up (va_up (va_up (va_up Q 228 (Q 228)) 229 (Q 229)) 230 (Q 230)) 231 (Q 231)), G, J) ⟨(I 220), (I 224), (Q 228), (I 221), (I 225), (Q 229), (I 222), (I 226), (Q 230), (I 223), (I 227), (Q 231), (Or.inr (Or.inr ⟨rfl, fun s v a9 b9 c9 d9 e9 => by first | exact absurd c9 (hns9 s a9) | exact absurd d9 (hns9 v b9) | contradiction, rfl, rfl, rfl, rfl, rfl, rfl, rfl, rfl, rfl, rfl, rfl, rfl⟩)), rfl⟩ hP hD
set_option maxRecDepth 20000 in
theorem ggX9_drop_X9_isSheet : GoodIn wsX9_drop wsX9_isSheet := goodIn_r _ [6] rfl (by decide +kernel)
set_option maxRecDepth 20000 in
theorem gX9_drop_X9_isSheet : GoodIn wsX9_drop (va_wsS RX9 266 yX9_isSheet wsX9_isSheet) := goodIn_app (goodIn_of _ (by decide +kernel)) ggX9_drop_X9_isSheet
set_option maxRecDepth 20000 in
theorem ggX9_drop_X5_holds : GoodIn wsX9_drop wsX5_holds := goodIn_r _ [11, 12, 27, 28, 29] rfl (by decide +kernel)
set_option maxRecDepth 20000 in
theorem gX9_drop_X5_holds : GoodIn wsX9_drop (wsV RX9 275 RX5 yX5_holds wsX5_holds) := goodIn_app (goodIn_of _ (by decide +kernel)) ggX9_drop_X5_holds
set_option maxRecDepth 20000 in
theorem ggX9_drop_X5_empty : GoodIn wsX9_drop wsX5_empty := goodIn_r _ [16, 12, 17, 27, 28, 29] rfl (by decide +kernel)
set_option maxRecDepth 20000 in
theorem gX9_drop_X5_empty : GoodIn wsX9_drop (wsV RX9 281 RX5 yX5_empty wsX5_empty) := goodIn_app (goodIn_of _ (by decide +kernel)) ggX9_drop_X5_empty
theorem bdX9_drop_0 : (decode cX9_drop 0 = .ok (.iload_n 1, 1)) ∧ (decode cX9_drop 1 = .ok (.invokestatic 266, 3)) ∧ (decode cX9_drop 4 = .ok (.ifCond .ne 5, 3)) ∧ (decode cX9_drop 7 = .ok (.iconst (-1), 1)) ∧ (decode cX9_drop 8 = .ok (.ireturn, 1)) ∧ (decode cX9_drop 9 = .ok (.aload_n 0, 1)) ∧ (decode cX9_drop 10 = .ok (.getfield 71, 3)) ∧ (decode cX9_drop 13 = .ok (.iload_n 1, 1)) ∧ (decode cX9_drop 14 = .ok (.aaload, 1)) ∧ (decode cX9_drop 15 = .ok (.invokevirtual 275, 3)) ∧ (decode cX9_drop 18 = .ok (.ifCond .ne 6, 3)) ∧ (decode cX9_drop 21 = .ok (.bipush (-11), 2)) ∧ (decode cX9_drop 23 = .ok (.ireturn, 1)) ∧ (decode cX9_drop 24 = .ok (.aload_n 0, 1)) ∧ (decode cX9_drop 25 = .ok (.getfield 71, 3)) ∧ (decode cX9_drop 28 = .ok (.iload_n 1, 1)) := by decide +kernel
theorem dX9_drop_0 : decode cX9_drop 0 = .ok (.iload_n 1, 1) := bdX9_drop_0.1
theorem dX9_drop_1 : decode cX9_drop 1 = .ok (.invokestatic 266, 3) := bdX9_drop_0.2.1
theorem dX9_drop_4 : decode cX9_drop 4 = .ok (.ifCond .ne 5, 3) := bdX9_drop_0.2.2.1
theorem dX9_drop_7 : decode cX9_drop 7 = .ok (.iconst (-1), 1) := bdX9_drop_0.2.2.2.1
theorem dX9_drop_8 : decode cX9_drop 8 = .ok (.ireturn, 1) := bdX9_drop_0.2.2.2.2.1
theorem dX9_drop_9 : decode cX9_drop 9 = .ok (.aload_n 0, 1) := bdX9_drop_0.2.2.2.2.2.1
theorem dX9_drop_10 : decode cX9_drop 10 = .ok (.getfield 71, 3) := bdX9_drop_0.2.2.2.2.2.2.1
theorem dX9_drop_13 : decode cX9_drop 13 = .ok (.iload_n 1, 1) := bdX9_drop_0.2.2.2.2.2.2.2.1
theorem dX9_drop_14 : decode cX9_drop 14 = .ok (.aaload, 1) := bdX9_drop_0.2.2.2.2.2.2.2.2.1
theorem dX9_drop_15 : decode cX9_drop 15 = .ok (.invokevirtual 275, 3) := bdX9_drop_0.2.2.2.2.2.2.2.2.2.1
theorem dX9_drop_18 : decode cX9_drop 18 = .ok (.ifCond .ne 6, 3) := bdX9_drop_0.2.2.2.2.2.2.2.2.2.2.1
theorem dX9_drop_21 : decode cX9_drop 21 = .ok (.bipush (-11), 2) := bdX9_drop_0.2.2.2.2.2.2.2.2.2.2.2.1
theorem dX9_drop_23 : decode cX9_drop 23 = .ok (.ireturn, 1) := bdX9_drop_0.2.2.2.2.2.2.2.2.2.2.2.2.1
theorem dX9_drop_24 : decode cX9_drop 24 = .ok (.aload_n 0, 1) := bdX9_drop_0.2.2.2.2.2.2.2.2.2.2.2.2.2.1
theorem dX9_drop_25 : decode cX9_drop 25 = .ok (.getfield 71, 3) := bdX9_drop_0.2.2.2.2.2.2.2.2.2.2.2.2.2.2.1
theorem dX9_drop_28 : decode cX9_drop 28 = .ok (.iload_n 1, 1) := bdX9_drop_0.2.2.2.2.2.2.2.2.2.2.2.2.2.2.2
theorem bdX9_drop_29 : (decode cX9_drop 29 = .ok (.aaload, 1)) ∧ (decode cX9_drop 30 = .ok (.getfield 278, 3)) ∧ (decode cX9_drop 33 = .ok (.istore_n 2, 1)) ∧ (decode cX9_drop 34 = .ok (.aload_n 0, 1)) ∧ (decode cX9_drop 35 = .ok (.getfield 71, 3)) ∧ (decode cX9_drop 38 = .ok (.iload_n 1, 1)) ∧ (decode cX9_drop 39 = .ok (.aaload, 1)) ∧ (decode cX9_drop 40 = .ok (.invokevirtual 281, 3)) ∧ (decode cX9_drop 43 = .ok (.iload_n 2, 1)) ∧ (decode cX9_drop 44 = .ok (.ireturn, 1)) := by decide +kernel
theorem dX9_drop_29 : decode cX9_drop 29 = .ok (.aaload, 1) := bdX9_drop_29.1
theorem dX9_drop_30 : decode cX9_drop 30 = .ok (.getfield 278, 3) := bdX9_drop_29.2.1
theorem dX9_drop_33 : decode cX9_drop 33 = .ok (.istore_n 2, 1) := bdX9_drop_29.2.2.1
theorem dX9_drop_34 : decode cX9_drop 34 = .ok (.aload_n 0, 1) := bdX9_drop_29.2.2.2.1
theorem dX9_drop_35 : decode cX9_drop 35 = .ok (.getfield 71, 3) := bdX9_drop_29.2.2.2.2.1
theorem dX9_drop_38 : decode cX9_drop 38 = .ok (.iload_n 1, 1) := bdX9_drop_29.2.2.2.2.2.1
theorem dX9_drop_39 : decode cX9_drop 39 = .ok (.aaload, 1) := bdX9_drop_29.2.2.2.2.2.2.1
theorem dX9_drop_40 : decode cX9_drop 40 = .ok (.invokevirtual 281, 3) := bdX9_drop_29.2.2.2.2.2.2.2.1
theorem dX9_drop_43 : decode cX9_drop 43 = .ok (.iload_n 2, 1) := bdX9_drop_29.2.2.2.2.2.2.2.2.1
theorem dX9_drop_44 : decode cX9_drop 44 = .ok (.ireturn, 1) := bdX9_drop_29.2.2.2.2.2.2.2.2.2
set_option maxHeartbeats 4000000 in
set_option maxRecDepth 100000 in
theorem k_X9_drop (l : Launch) (dC : Nat → ClassId) (dI : Nat → Nat → Nat) (h : Nat → Nat) (cs : Nat → ClassId) (sz : Nat) (I : Nat → Int32) (L : Nat → Int64) (A : Nat → Nat → Int32) (Q : Nat → Nat → Int64) (G : Nat → Nat → Nat → Int32) (J : Nat → Nat → Nat → Int64) (x : Int32) : Met l yX9_drop wsX9_drop ({ frames := 1, cells := 0, slots := 0, locals := 20 }) (va_Pc [.ref (h 100), .int x] (xPre (dC, dI) (wFS h cs I L A Q G J) (tysA cs) sz)) (va_Qi (fun (r : Int32) (u : CS) => ∃ i220 : Int32, ∃ i224 : Int32, ∃ i221 : Int32, ∃ i225 : Int32, ∃ i222 : Int32, ∃ i226 : Int32, ∃ i223 : Int32, ∃ i227 : Int32, ((r = -1 ∧ (∀ s : Nat, s < 4 → x ≠ nI s) ∧ i220 = I 220 ∧ i221 = I 221 ∧ i222 = I 222 ∧ i223 = I 223 ∧ i224 = I 224 ∧ i225 = I 225 ∧ i226 = I 226 ∧ i227 = I 227) ∨ ∃ s : Nat, s < 4 ∧ x = nI s ∧ ((I (220 + s) = -1 ∧ r = -11 ∧ i220 = I 220 ∧ i221 = I 221 ∧ i222 = I 222 ∧ i223 = I 223 ∧ i224 = I 224 ∧ i225 = I 225 ∧ i226 = I 226 ∧ i227 = I 227) ∨ (¬ I (220 + s) = -1 ∧ r = I (224 + s) ∧ i220 = (if s = 0 then -1 else I 220) ∧ i224 = (if s = 0 then nI 0 else I 224) ∧ i221 = (if s = 1 then -1 else I 221) ∧ i225 = (if s = 1 then nI 0 else I 225) ∧ i222 = (if s = 2 then -1 else I 222) ∧ i226 = (if s = 2 then nI 0 else I 226) ∧ i223 = (if s = 3 then -1 else I 223) ∧ i227 = (if s = 3 then nI 0 else I 227)))) ∧ u = ((va_up (va_up (va_up (va_up (va_up (va_up (va_up (va_up I 220 i220) 224 i224) 221 i221) 225 i225) 222 i222) 226 i226) 223 i223) 227 i227), L, A, Q, G, J)) (xB (dC, dI) (tysA cs) (va_A (wFS h cs I L A Q G J) sz) (fun u : CS => wFS h cs u.1 u.2.1 u.2.2.1 u.2.2.2.1 u.2.2.2.2.1 u.2.2.2.2.2)) (va_A (wFS h cs I L A Q G J) sz)) 0 0 (va_A (wFS h cs I L A Q G J) sz) := by
  refine Met.ofW (cc := cX9_drop) (maxL := 3) (ret := (some .int)) (by decide) rfl ?_
  intro p e s m args below meth c s₁ B hml hv
  obtain ⟨rfl, hsz, hP, hK, hD0, hN⟩ := hv
  have hx := B.exec
  have hb := B.bytes
  have hr := B.returns
  have hts := atoms_spec (ws := wsX9_drop) B.pre
  have hown : s.vm.findClass RX9 = some m.cls := findClass_of_methodNamed B.named
  have hlocks := B.notSynchronized
  subst hsz
  have hD := hD0.self (sz := s.heap.size)
  generalize hAe : va_A (wFS h cs I L A Q G J) s.heap.size = A0 at hD ⊢
  have hA : ∀ q : Nat, s.heap.size ≤ q → A0 q := fun q h => by rw [← hAe]; exact Or.inr h
  have hl := lv_entry ([.ref (h 100), .int x]) (n := 3) (Nat.le_of_ble_eq_true rfl)
  rw [lg_entry_eq]
  generalize (lg_sl ([.ref (h 100), .int x]) ++ List.replicate (3 - (lg_sl ([.ref (h 100), .int x])).length) Slot.unset).toArray = ls at hl ⊢
  have hl : lv_has ls 3 [(0, .ref (h 100)), (1, .int x)] := hl
  generalize hH : s.heap = H at hP ⊢
  have hS : va_S A0 s.heap H [] := by rw [← hH]; exact va_S.rf
  have hinX9 : ∀ w ∈ wsX90, w ∈ wsX9_drop := by decide +kernel
  have hinX5 : ∀ w ∈ wsX50, w ∈ wsX9_drop := by decide +kernel
  refine lv_iload_n hx hb dX9_drop_0 rfl (lv_at hl 1 rfl) ?_
  refine xj_i (wc := ([] : va_W)) (wr := (wFS h cs I L A Q G J)) hP hD hS hA [] [0, 1, 2, 3, 4, 5, 6, 7, 8, 9] rfl rfl (by decide +kernel) (by decide +kernel) (va_runS (As := [.int x]) (rest := []) ⟨hx, hb, hml, hown, hts⟩ (k_X9_isSheet l dC dI h cs H.size I L A Q G J x) (va_cwS 1 hts gX9_drop_X9_isSheet rfl rfl rfl (by decide +kernel) ⟨Nat.le_of_ble_eq_true rfl, Nat.le_of_ble_eq_true rfl⟩) (xpS (wc := ([] : va_W)) hP hD hK hN [] rfl (by decide) _) rfl rfl hl.1 rfl (lv_room (Nat.le_of_ble_eq_true rfl)) dX9_drop_1 ⟨Nat.zero_le _, Nat.zero_le _⟩) (fun r_2 u_1 H locs hw hP hD hS => ?_)
  obtain ⟨hf_3, rfl⟩ := hw
  have hP : va_P (dC, dI) vwCl (wFS h cs I L A Q G J) H := hP
  have hD : va_D A0 (wFS h cs I L A Q G J) := hD
  rcases hf_3 with ⟨rfl, is9, his9, hxs9⟩ | ⟨rfl, hns9⟩
  · skip
    rcases (show is9 = 0 ∨ is9 = 1 ∨ is9 = 2 ∨ is9 = 3 by omega) with rfl | rfl | rfl | rfl
    · skip
      rw [hxs9] at hl
      refine lv_if_ne (tgt := 9) hx hb dX9_drop_4 (by decide) (fun _ => ?_) (fun c9 => False.elim (by revert c9; decide +kernel))
      refine lv_aload_n hx hb dX9_drop_9 rfl (lv_at hl 0 rfl) ?_
      refine va_get (D := (dC, dI)) (ci := 9) (v := .ref (h 109)) (C := RX9) (T := TX9) (N := 9) hx hb hts hinX9 hown hK hP 0 rfl rfl 8 (by decide) (hts (.fieldLink RX9 71 "MixedWords" "sheets" "[LMixedWords$Sheet;") (by decide +kernel)) (fun _ h9 => h9) rfl dX9_drop_10 ?_
      refine lv_iload_n hx hb dX9_drop_13 rfl (lv_at hl 1 rfl) ?_
      refine xa_aald (b := h 110) hx hb hK hP 1 5 rfl rfl rfl (by omega) (by decide) (if_pos (by omega)) dX9_drop_14 ?_
      refine xj_i (wc := (wSheet (fun k => h (k + 0)) cs (fun k => I (k + 0)) L A (fun k => Q (k + 0)) G J)) (wr := [(h 100, .inr (9, [.ref (h 101), .ref (h 102), .ref (h 103), .ref (h 104), .ref (h 105), .ref (h 106), .ref (h 107), .ref (h 108), .ref (h 109)])), (h 109, .inl (cs 5, 4, .inr (.inr (.inr (.inr (fun i => if i < 4 then some (h (i + 110)) else none)))))), (h 111, .inr (5, [.int (I 221), .int (I 225), .ref (h 229)])), (h 229, .inl (cs 1, 25, .inr (.inl (Q 229)))), (h 112, .inr (5, [.int (I 222), .int (I 226), .ref (h 230)])), (h 230, .inl (cs 1, 25, .inr (.inl (Q 230)))), (h 113, .inr (5, [.int (I 223), .int (I 227), .ref (h 231)])), (h 231, .inl (cs 1, 25, .inr (.inl (Q 231))))]) hP hD hS hA [2, 3] [0, 1, 4, 5, 6, 7, 8, 9] rfl rfl (by decide +kernel) (by decide +kernel) (va_runV (As := []) (rest := []) ⟨hx, hb, hml, hown, hts⟩ (k_X5_holds l dC dI (fun k => h (k + 0)) cs H.size (fun k => I (k + 0)) L A (fun k => Q (k + 0)) G J ) (cwV 0 hts gX9_drop_X5_holds rfl rfl rfl (by decide +kernel) ⟨Nat.le_of_ble_eq_true rfl, Nat.le_of_ble_eq_true rfl⟩) (xpV (wc := (wSheet (fun k => h (k + 0)) cs (fun k => I (k + 0)) L A (fun k => Q (k + 0)) G J)) hP hD hK hN [2, 3] rfl (by decide) 2 (ci := 5) rfl rfl _) rfl rfl hl.1 rfl (lv_room (Nat.le_of_ble_eq_true rfl)) dX9_drop_15 ⟨Nat.zero_le _, Nat.zero_le _⟩) (fun r_5 u_4 H locs hw hP hD hS => ?_)
      obtain ⟨hf_6, rfl⟩ := hw
      have hP : va_P (dC, dI) vwCl (wFS h cs I L A Q G J) H := xP_sub hP [0, 1, 8, 9, 2, 3, 4, 5, 6, 7] rfl
      have hD : va_D A0 (wFS h cs I L A Q G J) := hD.sub [0, 1, 8, 9, 2, 3, 4, 5, 6, 7] (by decide +kernel) rfl
      rcases (show (r_5 = nI 1 ∧ ¬ I 220 = -1) ∨ (r_5 = nI 0 ∧ I 220 = -1) from hf_6) with ⟨rfl, hho_7⟩ | ⟨rfl, hho_7⟩
      · skip
        refine lv_if_ne (tgt := 24) hx hb dX9_drop_18 (by decide) (fun _ => ?_) (fun c9 => False.elim (by revert c9; decide +kernel))
        refine lv_aload_n hx hb dX9_drop_24 rfl (lv_at hl 0 rfl) ?_
        refine va_get (D := (dC, dI)) (ci := 9) (v := .ref (h 109)) (C := RX9) (T := TX9) (N := 9) hx hb hts hinX9 hown hK hP 0 rfl rfl 8 (by decide) (hts (.fieldLink RX9 71 "MixedWords" "sheets" "[LMixedWords$Sheet;") (by decide +kernel)) (fun _ h9 => h9) rfl dX9_drop_25 ?_
        refine lv_iload_n hx hb dX9_drop_28 rfl (lv_at hl 1 rfl) ?_
        refine xa_aald (b := h 110) hx hb hK hP 1 5 rfl rfl rfl (by omega) (by decide) (if_pos (by omega)) dX9_drop_29 ?_
        refine va_get (D := (dC, dI)) (ci := 5) (v := .int (I 224)) (C := RX5) (T := TX5) (N := 3) hx hb hts hinX5 hown hK hP 2 rfl rfl 1 (by decide) (hts (.fieldLink RX9 278 "MixedWords$Sheet" "length" "I") (by decide +kernel)) (fun _ h9 => h9) rfl dX9_drop_30 ?_
        refine lv_istore_n (lv' := [(2, .int (I 224)), (0, .ref (h 100)), (1, .int (nI 0))]) hx hb dX9_drop_33 rfl hl (by decide) rfl (fun ls hl => ?_)
        refine lv_aload_n hx hb dX9_drop_34 rfl (lv_at hl 1 rfl) ?_
        refine va_get (D := (dC, dI)) (ci := 9) (v := .ref (h 109)) (C := RX9) (T := TX9) (N := 9) hx hb hts hinX9 hown hK hP 0 rfl rfl 8 (by decide) (hts (.fieldLink RX9 71 "MixedWords" "sheets" "[LMixedWords$Sheet;") (by decide +kernel)) (fun _ h9 => h9) rfl dX9_drop_35 ?_
        refine lv_iload_n hx hb dX9_drop_38 rfl (lv_at hl 2 rfl) ?_
        refine xa_aald (b := h 110) hx hb hK hP 1 5 rfl rfl rfl (by omega) (by decide) (if_pos (by omega)) dX9_drop_39 ?_
        refine xj_v (wc := (wSheet (fun k => h (k + 0)) cs (fun k => I (k + 0)) L A (fun k => Q (k + 0)) G J)) (wr := [(h 100, .inr (9, [.ref (h 101), .ref (h 102), .ref (h 103), .ref (h 104), .ref (h 105), .ref (h 106), .ref (h 107), .ref (h 108), .ref (h 109)])), (h 109, .inl (cs 5, 4, .inr (.inr (.inr (.inr (fun i => if i < 4 then some (h (i + 110)) else none)))))), (h 111, .inr (5, [.int (I 221), .int (I 225), .ref (h 229)])), (h 229, .inl (cs 1, 25, .inr (.inl (Q 229)))), (h 112, .inr (5, [.int (I 222), .int (I 226), .ref (h 230)])), (h 230, .inl (cs 1, 25, .inr (.inl (Q 230)))), (h 113, .inr (5, [.int (I 223), .int (I 227), .ref (h 231)])), (h 231, .inl (cs 1, 25, .inr (.inl (Q 231))))]) hP hD hS hA [2, 3] [0, 1, 4, 5, 6, 7, 8, 9] rfl rfl (by decide +kernel) (by decide +kernel) (va_runV (As := []) (rest := []) ⟨hx, hb, hml, hown, hts⟩ (k_X5_empty l dC dI (fun k => h (k + 0)) cs H.size (fun k => I (k + 0)) L A (fun k => Q (k + 0)) G J ) (cwV 0 hts gX9_drop_X5_empty rfl rfl rfl (by decide +kernel) ⟨Nat.le_of_ble_eq_true rfl, Nat.le_of_ble_eq_true rfl⟩) (xpV (wc := (wSheet (fun k => h (k + 0)) cs (fun k => I (k + 0)) L A (fun k => Q (k + 0)) G J)) hP hD hK hN [2, 3] rfl (by decide) 2 (ci := 5) rfl rfl _) rfl rfl hl.1 rfl (lv_room (Nat.le_of_ble_eq_true rfl)) dX9_drop_40 ⟨Nat.zero_le _, Nat.zero_le _⟩) (fun u_8 H locs hw hP hD hS => ?_)
        obtain ⟨x220_10, x224_11, hf_12, rfl⟩ := hw
        have hP : va_P (dC, dI) vwCl (wFS h cs (va_up (va_up I 220 x220_10) 224 x224_11) L A Q G J) H := xP_sub hP [0, 1, 8, 9, 2, 3, 4, 5, 6, 7] rfl
        have hD : va_D A0 (wFS h cs (va_up (va_up I 220 x220_10) 224 x224_11) L A Q G J) := hD.sub [0, 1, 8, 9, 2, 3, 4, 5, 6, 7] (by decide +kernel) rfl
        obtain ⟨rfl, rfl⟩ := hf_12
        refine lv_iload_n hx hb dX9_drop_43 rfl (lv_at hl 0 rfl) ?_
        exact xr_i (v := (I 224)) hx hb hr hlocks hK hS dX9_drop_44 ((va_up (va_up (va_up (va_up (va_up (va_up (va_up (va_up I 220 (-1)) 224 (nI 0)) 221 (I 221)) 225 (I 225)) 222 (I 222)) 226 (I 226)) 223 (I 223)) 227 (I 227)), L, A, Q, G, J) ⟨(-1), (nI 0), (I 221), (I 225), (I 222), (I 226), (I 223), (I 227), (Or.inr ⟨0, by omega, hxs9, Or.inr ⟨hho_7, rfl, rfl, rfl, rfl, rfl, rfl, rfl, rfl, rfl⟩⟩), rfl⟩ hP hD
      · skip
        refine lv_if_ne (tgt := 24) hx hb dX9_drop_18 (by decide) (fun c9 => False.elim (by revert c9; decide +kernel)) (fun _ => ?_)
        refine lv_bipush (v := (-11)) hx hb dX9_drop_21 (by decide) ?_
        exact xr_i (v := (-11)) hx hb hr hlocks hK hS dX9_drop_23 ((va_up (va_up (va_up (va_up (va_up (va_up (va_up (va_up I 220 (I 220)) 224 (I 224)) 221 (I 221)) 225 (I 225)) 222 (I 222)) 226 (I 226)) 223 (I 223)) 227 (I 227)), L, A, Q, G, J) ⟨(I 220), (I 224), (I 221), (I 225), (I 222), (I 226), (I 223), (I 227), (Or.inr ⟨0, by omega, hxs9, Or.inl ⟨hho_7, rfl, rfl, rfl, rfl, rfl, rfl, rfl, rfl, rfl⟩⟩), rfl⟩ hP hD
    · skip
      rw [hxs9] at hl
      refine lv_if_ne (tgt := 9) hx hb dX9_drop_4 (by decide) (fun _ => ?_) (fun c9 => False.elim (by revert c9; decide +kernel))
      refine lv_aload_n hx hb dX9_drop_9 rfl (lv_at hl 0 rfl) ?_
      refine va_get (D := (dC, dI)) (ci := 9) (v := .ref (h 109)) (C := RX9) (T := TX9) (N := 9) hx hb hts hinX9 hown hK hP 0 rfl rfl 8 (by decide) (hts (.fieldLink RX9 71 "MixedWords" "sheets" "[LMixedWords$Sheet;") (by decide +kernel)) (fun _ h9 => h9) rfl dX9_drop_10 ?_
      refine lv_iload_n hx hb dX9_drop_13 rfl (lv_at hl 1 rfl) ?_
      refine xa_aald (b := h 111) hx hb hK hP 1 5 rfl rfl rfl (by omega) (by decide) (if_pos (by omega)) dX9_drop_14 ?_
      refine xj_i (wc := (wSheet (fun k => h (k + 1)) cs (fun k => I (k + 1)) L A (fun k => Q (k + 1)) G J)) (wr := [(h 100, .inr (9, [.ref (h 101), .ref (h 102), .ref (h 103), .ref (h 104), .ref (h 105), .ref (h 106), .ref (h 107), .ref (h 108), .ref (h 109)])), (h 109, .inl (cs 5, 4, .inr (.inr (.inr (.inr (fun i => if i < 4 then some (h (i + 110)) else none)))))), (h 110, .inr (5, [.int (I 220), .int (I 224), .ref (h 228)])), (h 228, .inl (cs 1, 25, .inr (.inl (Q 228)))), (h 112, .inr (5, [.int (I 222), .int (I 226), .ref (h 230)])), (h 230, .inl (cs 1, 25, .inr (.inl (Q 230)))), (h 113, .inr (5, [.int (I 223), .int (I 227), .ref (h 231)])), (h 231, .inl (cs 1, 25, .inr (.inl (Q 231))))]) hP hD hS hA [4, 5] [0, 1, 2, 3, 6, 7, 8, 9] rfl rfl (by decide +kernel) (by decide +kernel) (va_runV (As := []) (rest := []) ⟨hx, hb, hml, hown, hts⟩ (k_X5_holds l dC dI (fun k => h (k + 1)) cs H.size (fun k => I (k + 1)) L A (fun k => Q (k + 1)) G J ) (cwV 0 hts gX9_drop_X5_holds rfl rfl rfl (by decide +kernel) ⟨Nat.le_of_ble_eq_true rfl, Nat.le_of_ble_eq_true rfl⟩) (xpV (wc := (wSheet (fun k => h (k + 1)) cs (fun k => I (k + 1)) L A (fun k => Q (k + 1)) G J)) hP hD hK hN [4, 5] rfl (by decide) 4 (ci := 5) rfl rfl _) rfl rfl hl.1 rfl (lv_room (Nat.le_of_ble_eq_true rfl)) dX9_drop_15 ⟨Nat.zero_le _, Nat.zero_le _⟩) (fun r_14 u_13 H locs hw hP hD hS => ?_)
      obtain ⟨hf_15, rfl⟩ := hw
      have hP : va_P (dC, dI) vwCl (wFS h cs I L A Q G J) H := xP_sub hP [0, 1, 2, 3, 8, 9, 4, 5, 6, 7] rfl
      have hD : va_D A0 (wFS h cs I L A Q G J) := hD.sub [0, 1, 2, 3, 8, 9, 4, 5, 6, 7] (by decide +kernel) rfl
      rcases (show (r_14 = nI 1 ∧ ¬ I 221 = -1) ∨ (r_14 = nI 0 ∧ I 221 = -1) from hf_15) with ⟨rfl, hho_16⟩ | ⟨rfl, hho_16⟩
      · skip
        refine lv_if_ne (tgt := 24) hx hb dX9_drop_18 (by decide) (fun _ => ?_) (fun c9 => False.elim (by revert c9; decide +kernel))
        refine lv_aload_n hx hb dX9_drop_24 rfl (lv_at hl 0 rfl) ?_
        refine va_get (D := (dC, dI)) (ci := 9) (v := .ref (h 109)) (C := RX9) (T := TX9) (N := 9) hx hb hts hinX9 hown hK hP 0 rfl rfl 8 (by decide) (hts (.fieldLink RX9 71 "MixedWords" "sheets" "[LMixedWords$Sheet;") (by decide +kernel)) (fun _ h9 => h9) rfl dX9_drop_25 ?_
        refine lv_iload_n hx hb dX9_drop_28 rfl (lv_at hl 1 rfl) ?_
        refine xa_aald (b := h 111) hx hb hK hP 1 5 rfl rfl rfl (by omega) (by decide) (if_pos (by omega)) dX9_drop_29 ?_
        refine va_get (D := (dC, dI)) (ci := 5) (v := .int (I 225)) (C := RX5) (T := TX5) (N := 3) hx hb hts hinX5 hown hK hP 4 rfl rfl 1 (by decide) (hts (.fieldLink RX9 278 "MixedWords$Sheet" "length" "I") (by decide +kernel)) (fun _ h9 => h9) rfl dX9_drop_30 ?_
        refine lv_istore_n (lv' := [(2, .int (I 225)), (0, .ref (h 100)), (1, .int (nI 1))]) hx hb dX9_drop_33 rfl hl (by decide) rfl (fun ls hl => ?_)
        refine lv_aload_n hx hb dX9_drop_34 rfl (lv_at hl 1 rfl) ?_
        refine va_get (D := (dC, dI)) (ci := 9) (v := .ref (h 109)) (C := RX9) (T := TX9) (N := 9) hx hb hts hinX9 hown hK hP 0 rfl rfl 8 (by decide) (hts (.fieldLink RX9 71 "MixedWords" "sheets" "[LMixedWords$Sheet;") (by decide +kernel)) (fun _ h9 => h9) rfl dX9_drop_35 ?_
        refine lv_iload_n hx hb dX9_drop_38 rfl (lv_at hl 2 rfl) ?_
        refine xa_aald (b := h 111) hx hb hK hP 1 5 rfl rfl rfl (by omega) (by decide) (if_pos (by omega)) dX9_drop_39 ?_
        refine xj_v (wc := (wSheet (fun k => h (k + 1)) cs (fun k => I (k + 1)) L A (fun k => Q (k + 1)) G J)) (wr := [(h 100, .inr (9, [.ref (h 101), .ref (h 102), .ref (h 103), .ref (h 104), .ref (h 105), .ref (h 106), .ref (h 107), .ref (h 108), .ref (h 109)])), (h 109, .inl (cs 5, 4, .inr (.inr (.inr (.inr (fun i => if i < 4 then some (h (i + 110)) else none)))))), (h 110, .inr (5, [.int (I 220), .int (I 224), .ref (h 228)])), (h 228, .inl (cs 1, 25, .inr (.inl (Q 228)))), (h 112, .inr (5, [.int (I 222), .int (I 226), .ref (h 230)])), (h 230, .inl (cs 1, 25, .inr (.inl (Q 230)))), (h 113, .inr (5, [.int (I 223), .int (I 227), .ref (h 231)])), (h 231, .inl (cs 1, 25, .inr (.inl (Q 231))))]) hP hD hS hA [4, 5] [0, 1, 2, 3, 6, 7, 8, 9] rfl rfl (by decide +kernel) (by decide +kernel) (va_runV (As := []) (rest := []) ⟨hx, hb, hml, hown, hts⟩ (k_X5_empty l dC dI (fun k => h (k + 1)) cs H.size (fun k => I (k + 1)) L A (fun k => Q (k + 1)) G J ) (cwV 0 hts gX9_drop_X5_empty rfl rfl rfl (by decide +kernel) ⟨Nat.le_of_ble_eq_true rfl, Nat.le_of_ble_eq_true rfl⟩) (xpV (wc := (wSheet (fun k => h (k + 1)) cs (fun k => I (k + 1)) L A (fun k => Q (k + 1)) G J)) hP hD hK hN [4, 5] rfl (by decide) 4 (ci := 5) rfl rfl _) rfl rfl hl.1 rfl (lv_room (Nat.le_of_ble_eq_true rfl)) dX9_drop_40 ⟨Nat.zero_le _, Nat.zero_le _⟩) (fun u_17 H locs hw hP hD hS => ?_)
        obtain ⟨x220_19, x224_20, hf_21, rfl⟩ := hw
        have hP : va_P (dC, dI) vwCl (wFS h cs (va_up (va_up I 221 x220_19) 225 x224_20) L A Q G J) H := xP_sub hP [0, 1, 2, 3, 8, 9, 4, 5, 6, 7] rfl
        have hD : va_D A0 (wFS h cs (va_up (va_up I 221 x220_19) 225 x224_20) L A Q G J) := hD.sub [0, 1, 2, 3, 8, 9, 4, 5, 6, 7] (by decide +kernel) rfl
        obtain ⟨rfl, rfl⟩ := hf_21
        refine lv_iload_n hx hb dX9_drop_43 rfl (lv_at hl 0 rfl) ?_
        exact xr_i (v := (I 225)) hx hb hr hlocks hK hS dX9_drop_44 ((va_up (va_up (va_up (va_up (va_up (va_up (va_up (va_up I 220 (I 220)) 224 (I 224)) 221 (-1)) 225 (nI 0)) 222 (I 222)) 226 (I 226)) 223 (I 223)) 227 (I 227)), L, A, Q, G, J) ⟨(I 220), (I 224), (-1), (nI 0), (I 222), (I 226), (I 223), (I 227), (Or.inr ⟨1, by omega, hxs9, Or.inr ⟨hho_16, rfl, rfl, rfl, rfl, rfl, rfl, rfl, rfl, rfl⟩⟩), rfl⟩ hP hD
      · skip
        refine lv_if_ne (tgt := 24) hx hb dX9_drop_18 (by decide) (fun c9 => False.elim (by revert c9; decide +kernel)) (fun _ => ?_)
        refine lv_bipush (v := (-11)) hx hb dX9_drop_21 (by decide) ?_
        exact xr_i (v := (-11)) hx hb hr hlocks hK hS dX9_drop_23 ((va_up (va_up (va_up (va_up (va_up (va_up (va_up (va_up I 220 (I 220)) 224 (I 224)) 221 (I 221)) 225 (I 225)) 222 (I 222)) 226 (I 226)) 223 (I 223)) 227 (I 227)), L, A, Q, G, J) ⟨(I 220), (I 224), (I 221), (I 225), (I 222), (I 226), (I 223), (I 227), (Or.inr ⟨1, by omega, hxs9, Or.inl ⟨hho_16, rfl, rfl, rfl, rfl, rfl, rfl, rfl, rfl, rfl⟩⟩), rfl⟩ hP hD
    · skip
      rw [hxs9] at hl
      refine lv_if_ne (tgt := 9) hx hb dX9_drop_4 (by decide) (fun _ => ?_) (fun c9 => False.elim (by revert c9; decide +kernel))
      refine lv_aload_n hx hb dX9_drop_9 rfl (lv_at hl 0 rfl) ?_
      refine va_get (D := (dC, dI)) (ci := 9) (v := .ref (h 109)) (C := RX9) (T := TX9) (N := 9) hx hb hts hinX9 hown hK hP 0 rfl rfl 8 (by decide) (hts (.fieldLink RX9 71 "MixedWords" "sheets" "[LMixedWords$Sheet;") (by decide +kernel)) (fun _ h9 => h9) rfl dX9_drop_10 ?_
      refine lv_iload_n hx hb dX9_drop_13 rfl (lv_at hl 1 rfl) ?_
      refine xa_aald (b := h 112) hx hb hK hP 1 5 rfl rfl rfl (by omega) (by decide) (if_pos (by omega)) dX9_drop_14 ?_
      refine xj_i (wc := (wSheet (fun k => h (k + 2)) cs (fun k => I (k + 2)) L A (fun k => Q (k + 2)) G J)) (wr := [(h 100, .inr (9, [.ref (h 101), .ref (h 102), .ref (h 103), .ref (h 104), .ref (h 105), .ref (h 106), .ref (h 107), .ref (h 108), .ref (h 109)])), (h 109, .inl (cs 5, 4, .inr (.inr (.inr (.inr (fun i => if i < 4 then some (h (i + 110)) else none)))))), (h 110, .inr (5, [.int (I 220), .int (I 224), .ref (h 228)])), (h 228, .inl (cs 1, 25, .inr (.inl (Q 228)))), (h 111, .inr (5, [.int (I 221), .int (I 225), .ref (h 229)])), (h 229, .inl (cs 1, 25, .inr (.inl (Q 229)))), (h 113, .inr (5, [.int (I 223), .int (I 227), .ref (h 231)])), (h 231, .inl (cs 1, 25, .inr (.inl (Q 231))))]) hP hD hS hA [6, 7] [0, 1, 2, 3, 4, 5, 8, 9] rfl rfl (by decide +kernel) (by decide +kernel) (va_runV (As := []) (rest := []) ⟨hx, hb, hml, hown, hts⟩ (k_X5_holds l dC dI (fun k => h (k + 2)) cs H.size (fun k => I (k + 2)) L A (fun k => Q (k + 2)) G J ) (cwV 0 hts gX9_drop_X5_holds rfl rfl rfl (by decide +kernel) ⟨Nat.le_of_ble_eq_true rfl, Nat.le_of_ble_eq_true rfl⟩) (xpV (wc := (wSheet (fun k => h (k + 2)) cs (fun k => I (k + 2)) L A (fun k => Q (k + 2)) G J)) hP hD hK hN [6, 7] rfl (by decide) 6 (ci := 5) rfl rfl _) rfl rfl hl.1 rfl (lv_room (Nat.le_of_ble_eq_true rfl)) dX9_drop_15 ⟨Nat.zero_le _, Nat.zero_le _⟩) (fun r_23 u_22 H locs hw hP hD hS => ?_)
      obtain ⟨hf_24, rfl⟩ := hw
      have hP : va_P (dC, dI) vwCl (wFS h cs I L A Q G J) H := xP_sub hP [0, 1, 2, 3, 4, 5, 8, 9, 6, 7] rfl
      have hD : va_D A0 (wFS h cs I L A Q G J) := hD.sub [0, 1, 2, 3, 4, 5, 8, 9, 6, 7] (by decide +kernel) rfl
      rcases (show (r_23 = nI 1 ∧ ¬ I 222 = -1) ∨ (r_23 = nI 0 ∧ I 222 = -1) from hf_24) with ⟨rfl, hho_25⟩ | ⟨rfl, hho_25⟩
      · skip
        refine lv_if_ne (tgt := 24) hx hb dX9_drop_18 (by decide) (fun _ => ?_) (fun c9 => False.elim (by revert c9; decide +kernel))
        refine lv_aload_n hx hb dX9_drop_24 rfl (lv_at hl 0 rfl) ?_
        refine va_get (D := (dC, dI)) (ci := 9) (v := .ref (h 109)) (C := RX9) (T := TX9) (N := 9) hx hb hts hinX9 hown hK hP 0 rfl rfl 8 (by decide) (hts (.fieldLink RX9 71 "MixedWords" "sheets" "[LMixedWords$Sheet;") (by decide +kernel)) (fun _ h9 => h9) rfl dX9_drop_25 ?_
        refine lv_iload_n hx hb dX9_drop_28 rfl (lv_at hl 1 rfl) ?_
        refine xa_aald (b := h 112) hx hb hK hP 1 5 rfl rfl rfl (by omega) (by decide) (if_pos (by omega)) dX9_drop_29 ?_
        refine va_get (D := (dC, dI)) (ci := 5) (v := .int (I 226)) (C := RX5) (T := TX5) (N := 3) hx hb hts hinX5 hown hK hP 6 rfl rfl 1 (by decide) (hts (.fieldLink RX9 278 "MixedWords$Sheet" "length" "I") (by decide +kernel)) (fun _ h9 => h9) rfl dX9_drop_30 ?_
        refine lv_istore_n (lv' := [(2, .int (I 226)), (0, .ref (h 100)), (1, .int (nI 2))]) hx hb dX9_drop_33 rfl hl (by decide) rfl (fun ls hl => ?_)
        refine lv_aload_n hx hb dX9_drop_34 rfl (lv_at hl 1 rfl) ?_
        refine va_get (D := (dC, dI)) (ci := 9) (v := .ref (h 109)) (C := RX9) (T := TX9) (N := 9) hx hb hts hinX9 hown hK hP 0 rfl rfl 8 (by decide) (hts (.fieldLink RX9 71 "MixedWords" "sheets" "[LMixedWords$Sheet;") (by decide +kernel)) (fun _ h9 => h9) rfl dX9_drop_35 ?_
        refine lv_iload_n hx hb dX9_drop_38 rfl (lv_at hl 2 rfl) ?_
        refine xa_aald (b := h 112) hx hb hK hP 1 5 rfl rfl rfl (by omega) (by decide) (if_pos (by omega)) dX9_drop_39 ?_
        refine xj_v (wc := (wSheet (fun k => h (k + 2)) cs (fun k => I (k + 2)) L A (fun k => Q (k + 2)) G J)) (wr := [(h 100, .inr (9, [.ref (h 101), .ref (h 102), .ref (h 103), .ref (h 104), .ref (h 105), .ref (h 106), .ref (h 107), .ref (h 108), .ref (h 109)])), (h 109, .inl (cs 5, 4, .inr (.inr (.inr (.inr (fun i => if i < 4 then some (h (i + 110)) else none)))))), (h 110, .inr (5, [.int (I 220), .int (I 224), .ref (h 228)])), (h 228, .inl (cs 1, 25, .inr (.inl (Q 228)))), (h 111, .inr (5, [.int (I 221), .int (I 225), .ref (h 229)])), (h 229, .inl (cs 1, 25, .inr (.inl (Q 229)))), (h 113, .inr (5, [.int (I 223), .int (I 227), .ref (h 231)])), (h 231, .inl (cs 1, 25, .inr (.inl (Q 231))))]) hP hD hS hA [6, 7] [0, 1, 2, 3, 4, 5, 8, 9] rfl rfl (by decide +kernel) (by decide +kernel) (va_runV (As := []) (rest := []) ⟨hx, hb, hml, hown, hts⟩ (k_X5_empty l dC dI (fun k => h (k + 2)) cs H.size (fun k => I (k + 2)) L A (fun k => Q (k + 2)) G J ) (cwV 0 hts gX9_drop_X5_empty rfl rfl rfl (by decide +kernel) ⟨Nat.le_of_ble_eq_true rfl, Nat.le_of_ble_eq_true rfl⟩) (xpV (wc := (wSheet (fun k => h (k + 2)) cs (fun k => I (k + 2)) L A (fun k => Q (k + 2)) G J)) hP hD hK hN [6, 7] rfl (by decide) 6 (ci := 5) rfl rfl _) rfl rfl hl.1 rfl (lv_room (Nat.le_of_ble_eq_true rfl)) dX9_drop_40 ⟨Nat.zero_le _, Nat.zero_le _⟩) (fun u_26 H locs hw hP hD hS => ?_)
        obtain ⟨x220_28, x224_29, hf_30, rfl⟩ := hw
        have hP : va_P (dC, dI) vwCl (wFS h cs (va_up (va_up I 222 x220_28) 226 x224_29) L A Q G J) H := xP_sub hP [0, 1, 2, 3, 4, 5, 8, 9, 6, 7] rfl
        have hD : va_D A0 (wFS h cs (va_up (va_up I 222 x220_28) 226 x224_29) L A Q G J) := hD.sub [0, 1, 2, 3, 4, 5, 8, 9, 6, 7] (by decide +kernel) rfl
        obtain ⟨rfl, rfl⟩ := hf_30
        refine lv_iload_n hx hb dX9_drop_43 rfl (lv_at hl 0 rfl) ?_
        exact xr_i (v := (I 226)) hx hb hr hlocks hK hS dX9_drop_44 ((va_up (va_up (va_up (va_up (va_up (va_up (va_up (va_up I 220 (I 220)) 224 (I 224)) 221 (I 221)) 225 (I 225)) 222 (-1)) 226 (nI 0)) 223 (I 223)) 227 (I 227)), L, A, Q, G, J) ⟨(I 220), (I 224), (I 221), (I 225), (-1), (nI 0), (I 223), (I 227), (Or.inr ⟨2, by omega, hxs9, Or.inr ⟨hho_25, rfl, rfl, rfl, rfl, rfl, rfl, rfl, rfl, rfl⟩⟩), rfl⟩ hP hD
      · skip
        refine lv_if_ne (tgt := 24) hx hb dX9_drop_18 (by decide) (fun c9 => False.elim (by revert c9; decide +kernel)) (fun _ => ?_)
        refine lv_bipush (v := (-11)) hx hb dX9_drop_21 (by decide) ?_
        exact xr_i (v := (-11)) hx hb hr hlocks hK hS dX9_drop_23 ((va_up (va_up (va_up (va_up (va_up (va_up (va_up (va_up I 220 (I 220)) 224 (I 224)) 221 (I 221)) 225 (I 225)) 222 (I 222)) 226 (I 226)) 223 (I 223)) 227 (I 227)), L, A, Q, G, J) ⟨(I 220), (I 224), (I 221), (I 225), (I 222), (I 226), (I 223), (I 227), (Or.inr ⟨2, by omega, hxs9, Or.inl ⟨hho_25, rfl, rfl, rfl, rfl, rfl, rfl, rfl, rfl, rfl⟩⟩), rfl⟩ hP hD
    · skip
      rw [hxs9] at hl
      refine lv_if_ne (tgt := 9) hx hb dX9_drop_4 (by decide) (fun _ => ?_) (fun c9 => False.elim (by revert c9; decide +kernel))
      refine lv_aload_n hx hb dX9_drop_9 rfl (lv_at hl 0 rfl) ?_
      refine va_get (D := (dC, dI)) (ci := 9) (v := .ref (h 109)) (C := RX9) (T := TX9) (N := 9) hx hb hts hinX9 hown hK hP 0 rfl rfl 8 (by decide) (hts (.fieldLink RX9 71 "MixedWords" "sheets" "[LMixedWords$Sheet;") (by decide +kernel)) (fun _ h9 => h9) rfl dX9_drop_10 ?_
      refine lv_iload_n hx hb dX9_drop_13 rfl (lv_at hl 1 rfl) ?_
      refine xa_aald (b := h 113) hx hb hK hP 1 5 rfl rfl rfl (by omega) (by decide) (if_pos (by omega)) dX9_drop_14 ?_
      refine xj_i (wc := (wSheet (fun k => h (k + 3)) cs (fun k => I (k + 3)) L A (fun k => Q (k + 3)) G J)) (wr := [(h 100, .inr (9, [.ref (h 101), .ref (h 102), .ref (h 103), .ref (h 104), .ref (h 105), .ref (h 106), .ref (h 107), .ref (h 108), .ref (h 109)])), (h 109, .inl (cs 5, 4, .inr (.inr (.inr (.inr (fun i => if i < 4 then some (h (i + 110)) else none)))))), (h 110, .inr (5, [.int (I 220), .int (I 224), .ref (h 228)])), (h 228, .inl (cs 1, 25, .inr (.inl (Q 228)))), (h 111, .inr (5, [.int (I 221), .int (I 225), .ref (h 229)])), (h 229, .inl (cs 1, 25, .inr (.inl (Q 229)))), (h 112, .inr (5, [.int (I 222), .int (I 226), .ref (h 230)])), (h 230, .inl (cs 1, 25, .inr (.inl (Q 230))))]) hP hD hS hA [8, 9] [0, 1, 2, 3, 4, 5, 6, 7] rfl rfl (by decide +kernel) (by decide +kernel) (va_runV (As := []) (rest := []) ⟨hx, hb, hml, hown, hts⟩ (k_X5_holds l dC dI (fun k => h (k + 3)) cs H.size (fun k => I (k + 3)) L A (fun k => Q (k + 3)) G J ) (cwV 0 hts gX9_drop_X5_holds rfl rfl rfl (by decide +kernel) ⟨Nat.le_of_ble_eq_true rfl, Nat.le_of_ble_eq_true rfl⟩) (xpV (wc := (wSheet (fun k => h (k + 3)) cs (fun k => I (k + 3)) L A (fun k => Q (k + 3)) G J)) hP hD hK hN [8, 9] rfl (by decide) 8 (ci := 5) rfl rfl _) rfl rfl hl.1 rfl (lv_room (Nat.le_of_ble_eq_true rfl)) dX9_drop_15 ⟨Nat.zero_le _, Nat.zero_le _⟩) (fun r_32 u_31 H locs hw hP hD hS => ?_)
      obtain ⟨hf_33, rfl⟩ := hw
      have hP : va_P (dC, dI) vwCl (wFS h cs I L A Q G J) H := hP
      have hD : va_D A0 (wFS h cs I L A Q G J) := hD
      rcases (show (r_32 = nI 1 ∧ ¬ I 223 = -1) ∨ (r_32 = nI 0 ∧ I 223 = -1) from hf_33) with ⟨rfl, hho_34⟩ | ⟨rfl, hho_34⟩
      · skip
        refine lv_if_ne (tgt := 24) hx hb dX9_drop_18 (by decide) (fun _ => ?_) (fun c9 => False.elim (by revert c9; decide +kernel))
        refine lv_aload_n hx hb dX9_drop_24 rfl (lv_at hl 0 rfl) ?_
        refine va_get (D := (dC, dI)) (ci := 9) (v := .ref (h 109)) (C := RX9) (T := TX9) (N := 9) hx hb hts hinX9 hown hK hP 0 rfl rfl 8 (by decide) (hts (.fieldLink RX9 71 "MixedWords" "sheets" "[LMixedWords$Sheet;") (by decide +kernel)) (fun _ h9 => h9) rfl dX9_drop_25 ?_
        refine lv_iload_n hx hb dX9_drop_28 rfl (lv_at hl 1 rfl) ?_
        refine xa_aald (b := h 113) hx hb hK hP 1 5 rfl rfl rfl (by omega) (by decide) (if_pos (by omega)) dX9_drop_29 ?_
        refine va_get (D := (dC, dI)) (ci := 5) (v := .int (I 227)) (C := RX5) (T := TX5) (N := 3) hx hb hts hinX5 hown hK hP 8 rfl rfl 1 (by decide) (hts (.fieldLink RX9 278 "MixedWords$Sheet" "length" "I") (by decide +kernel)) (fun _ h9 => h9) rfl dX9_drop_30 ?_
        refine lv_istore_n (lv' := [(2, .int (I 227)), (0, .ref (h 100)), (1, .int (nI 3))]) hx hb dX9_drop_33 rfl hl (by decide) rfl (fun ls hl => ?_)
        refine lv_aload_n hx hb dX9_drop_34 rfl (lv_at hl 1 rfl) ?_
        refine va_get (D := (dC, dI)) (ci := 9) (v := .ref (h 109)) (C := RX9) (T := TX9) (N := 9) hx hb hts hinX9 hown hK hP 0 rfl rfl 8 (by decide) (hts (.fieldLink RX9 71 "MixedWords" "sheets" "[LMixedWords$Sheet;") (by decide +kernel)) (fun _ h9 => h9) rfl dX9_drop_35 ?_
        refine lv_iload_n hx hb dX9_drop_38 rfl (lv_at hl 2 rfl) ?_
        refine xa_aald (b := h 113) hx hb hK hP 1 5 rfl rfl rfl (by omega) (by decide) (if_pos (by omega)) dX9_drop_39 ?_
        refine xj_v (wc := (wSheet (fun k => h (k + 3)) cs (fun k => I (k + 3)) L A (fun k => Q (k + 3)) G J)) (wr := [(h 100, .inr (9, [.ref (h 101), .ref (h 102), .ref (h 103), .ref (h 104), .ref (h 105), .ref (h 106), .ref (h 107), .ref (h 108), .ref (h 109)])), (h 109, .inl (cs 5, 4, .inr (.inr (.inr (.inr (fun i => if i < 4 then some (h (i + 110)) else none)))))), (h 110, .inr (5, [.int (I 220), .int (I 224), .ref (h 228)])), (h 228, .inl (cs 1, 25, .inr (.inl (Q 228)))), (h 111, .inr (5, [.int (I 221), .int (I 225), .ref (h 229)])), (h 229, .inl (cs 1, 25, .inr (.inl (Q 229)))), (h 112, .inr (5, [.int (I 222), .int (I 226), .ref (h 230)])), (h 230, .inl (cs 1, 25, .inr (.inl (Q 230))))]) hP hD hS hA [8, 9] [0, 1, 2, 3, 4, 5, 6, 7] rfl rfl (by decide +kernel) (by decide +kernel) (va_runV (As := []) (rest := []) ⟨hx, hb, hml, hown, hts⟩ (k_X5_empty l dC dI (fun k => h (k + 3)) cs H.size (fun k => I (k + 3)) L A (fun k => Q (k + 3)) G J ) (cwV 0 hts gX9_drop_X5_empty rfl rfl rfl (by decide +kernel) ⟨Nat.le_of_ble_eq_true rfl, Nat.le_of_ble_eq_true rfl⟩) (xpV (wc := (wSheet (fun k => h (k + 3)) cs (fun k => I (k + 3)) L A (fun k => Q (k + 3)) G J)) hP hD hK hN [8, 9] rfl (by decide) 8 (ci := 5) rfl rfl _) rfl rfl hl.1 rfl (lv_room (Nat.le_of_ble_eq_true rfl)) dX9_drop_40 ⟨Nat.zero_le _, Nat.zero_le _⟩) (fun u_35 H locs hw hP hD hS => ?_)
        obtain ⟨x220_37, x224_38, hf_39, rfl⟩ := hw
        have hP : va_P (dC, dI) vwCl (wFS h cs (va_up (va_up I 223 x220_37) 227 x224_38) L A Q G J) H := hP
        have hD : va_D A0 (wFS h cs (va_up (va_up I 223 x220_37) 227 x224_38) L A Q G J) := hD
        obtain ⟨rfl, rfl⟩ := hf_39
        refine lv_iload_n hx hb dX9_drop_43 rfl (lv_at hl 0 rfl) ?_
        exact xr_i (v := (I 227)) hx hb hr hlocks hK hS dX9_drop_44 ((va_up (va_up (va_up (va_up (va_up (va_up (va_up (va_up I 220 (I 220)) 224 (I 224)) 221 (I 221)) 225 (I 225)) 222 (I 222)) 226 (I 226)) 223 (-1)) 227 (nI 0)), L, A, Q, G, J) ⟨(I 220), (I 224), (I 221), (I 225), (I 222), (I 226), (-1), (nI 0), (Or.inr ⟨3, by omega, hxs9, Or.inr ⟨hho_34, rfl, rfl, rfl, rfl, rfl, rfl, rfl, rfl, rfl⟩⟩), rfl⟩ hP hD
      · skip
        refine lv_if_ne (tgt := 24) hx hb dX9_drop_18 (by decide) (fun c9 => False.elim (by revert c9; decide +kernel)) (fun _ => ?_)
        refine lv_bipush (v := (-11)) hx hb dX9_drop_21 (by decide) ?_
        exact xr_i (v := (-11)) hx hb hr hlocks hK hS dX9_drop_23 ((va_up (va_up (va_up (va_up (va_up (va_up (va_up (va_up I 220 (I 220)) 224 (I 224)) 221 (I 221)) 225 (I 225)) 222 (I 222)) 226 (I 226)) 223 (I 223)) 227 (I 227)), L, A, Q, G, J) ⟨(I 220), (I 224), (I 221), (I 225), (I 222), (I 226), (I 223), (I 227), (Or.inr ⟨3, by omega, hxs9, Or.inl ⟨hho_34, rfl, rfl, rfl, rfl, rfl, rfl, rfl, rfl, rfl⟩⟩), rfl⟩ hP hD
  · skip
    refine lv_if_ne (tgt := 9) hx hb dX9_drop_4 (by decide) (fun c9 => False.elim (by revert c9; decide +kernel)) (fun _ => ?_)
    refine lv_iconst (v := (-1)) hx hb dX9_drop_7 (by decide) ?_
    exact xr_i (v := (-1)) hx hb hr hlocks hK hS dX9_drop_8 ((va_up (va_up (va_up (va_up (va_up (va_up (va_up (va_up I 220 (I 220)) 224 (I 224)) 221 (I 221)) 225 (I 225)) 222 (I 222)) 226 (I 226)) 223 (I 223)) 227 (I 227)), L, A, Q, G, J) ⟨(I 220), (I 224), (I 221), (I 225), (I 222), (I 226), (I 223), (I 227), (Or.inl ⟨rfl, hns9, rfl, rfl, rfl, rfl, rfl, rfl, rfl, rfl⟩), rfl⟩ hP hD
set_option maxRecDepth 20000 in
theorem ggX9_refusal_X9_isSheet : GoodIn wsX9_refusal wsX9_isSheet := goodIn_r _ [7] rfl (by decide +kernel)
set_option maxRecDepth 20000 in
theorem gX9_refusal_X9_isSheet : GoodIn wsX9_refusal (va_wsS RX9 266 yX9_isSheet wsX9_isSheet) := goodIn_app (goodIn_of _ (by decide +kernel)) ggX9_refusal_X9_isSheet
set_option maxRecDepth 20000 in
theorem ggX9_refusal_X9_isLane : GoodIn wsX9_refusal wsX9_isLane := goodIn_r _ [10] rfl (by decide +kernel)
set_option maxRecDepth 20000 in
theorem gX9_refusal_X9_isLane : GoodIn wsX9_refusal (va_wsS RX9 269 yX9_isLane wsX9_isLane) := goodIn_app (goodIn_of _ (by decide +kernel)) ggX9_refusal_X9_isLane
set_option maxRecDepth 20000 in
theorem ggX9_refusal_X5_holds : GoodIn wsX9_refusal wsX5_holds := goodIn_r _ [15, 16, 26, 27, 28] rfl (by decide +kernel)
set_option maxRecDepth 20000 in
theorem gX9_refusal_X5_holds : GoodIn wsX9_refusal (wsV RX9 275 RX5 yX5_holds wsX5_holds) := goodIn_app (goodIn_of _ (by decide +kernel)) ggX9_refusal_X5_holds
theorem bdX9_refusal_0 : (decode cX9_refusal 0 = .ok (.iload_n 1, 1)) ∧ (decode cX9_refusal 1 = .ok (.invokestatic 266, 3)) ∧ (decode cX9_refusal 4 = .ok (.ifCond .eq 10, 3)) ∧ (decode cX9_refusal 7 = .ok (.iload_n 2, 1)) ∧ (decode cX9_refusal 8 = .ok (.invokestatic 269, 3)) ∧ (decode cX9_refusal 11 = .ok (.ifCond .ne 5, 3)) ∧ (decode cX9_refusal 14 = .ok (.iconst (-1), 1)) ∧ (decode cX9_refusal 15 = .ok (.ireturn, 1)) ∧ (decode cX9_refusal 16 = .ok (.aload_n 0, 1)) ∧ (decode cX9_refusal 17 = .ok (.getfield 71, 3)) ∧ (decode cX9_refusal 20 = .ok (.iload_n 1, 1)) ∧ (decode cX9_refusal 21 = .ok (.aaload, 1)) ∧ (decode cX9_refusal 22 = .ok (.invokevirtual 275, 3)) ∧ (decode cX9_refusal 25 = .ok (.ifCond .ne 6, 3)) ∧ (decode cX9_refusal 28 = .ok (.bipush (-11), 2)) ∧ (decode cX9_refusal 30 = .ok (.ireturn, 1)) := by decide +kernel
theorem dX9_refusal_0 : decode cX9_refusal 0 = .ok (.iload_n 1, 1) := bdX9_refusal_0.1
theorem dX9_refusal_1 : decode cX9_refusal 1 = .ok (.invokestatic 266, 3) := bdX9_refusal_0.2.1
theorem dX9_refusal_4 : decode cX9_refusal 4 = .ok (.ifCond .eq 10, 3) := bdX9_refusal_0.2.2.1
theorem dX9_refusal_7 : decode cX9_refusal 7 = .ok (.iload_n 2, 1) := bdX9_refusal_0.2.2.2.1
theorem dX9_refusal_8 : decode cX9_refusal 8 = .ok (.invokestatic 269, 3) := bdX9_refusal_0.2.2.2.2.1
theorem dX9_refusal_11 : decode cX9_refusal 11 = .ok (.ifCond .ne 5, 3) := bdX9_refusal_0.2.2.2.2.2.1
theorem dX9_refusal_14 : decode cX9_refusal 14 = .ok (.iconst (-1), 1) := bdX9_refusal_0.2.2.2.2.2.2.1
theorem dX9_refusal_15 : decode cX9_refusal 15 = .ok (.ireturn, 1) := bdX9_refusal_0.2.2.2.2.2.2.2.1
theorem dX9_refusal_16 : decode cX9_refusal 16 = .ok (.aload_n 0, 1) := bdX9_refusal_0.2.2.2.2.2.2.2.2.1
theorem dX9_refusal_17 : decode cX9_refusal 17 = .ok (.getfield 71, 3) := bdX9_refusal_0.2.2.2.2.2.2.2.2.2.1
theorem dX9_refusal_20 : decode cX9_refusal 20 = .ok (.iload_n 1, 1) := bdX9_refusal_0.2.2.2.2.2.2.2.2.2.2.1
theorem dX9_refusal_21 : decode cX9_refusal 21 = .ok (.aaload, 1) := bdX9_refusal_0.2.2.2.2.2.2.2.2.2.2.2.1
theorem dX9_refusal_22 : decode cX9_refusal 22 = .ok (.invokevirtual 275, 3) := bdX9_refusal_0.2.2.2.2.2.2.2.2.2.2.2.2.1
theorem dX9_refusal_25 : decode cX9_refusal 25 = .ok (.ifCond .ne 6, 3) := bdX9_refusal_0.2.2.2.2.2.2.2.2.2.2.2.2.2.1
theorem dX9_refusal_28 : decode cX9_refusal 28 = .ok (.bipush (-11), 2) := bdX9_refusal_0.2.2.2.2.2.2.2.2.2.2.2.2.2.2.1
theorem dX9_refusal_30 : decode cX9_refusal 30 = .ok (.ireturn, 1) := bdX9_refusal_0.2.2.2.2.2.2.2.2.2.2.2.2.2.2.2
theorem bdX9_refusal_31 : (decode cX9_refusal 31 = .ok (.aload_n 0, 1)) ∧ (decode cX9_refusal 32 = .ok (.getfield 71, 3)) ∧ (decode cX9_refusal 35 = .ok (.iload_n 1, 1)) ∧ (decode cX9_refusal 36 = .ok (.aaload, 1)) ∧ (decode cX9_refusal 37 = .ok (.getfield 300, 3)) ∧ (decode cX9_refusal 40 = .ok (.iload_n 2, 1)) ∧ (decode cX9_refusal 41 = .ok (.if_icmp .eq 6, 3)) ∧ (decode cX9_refusal 44 = .ok (.bipush (-12), 2)) ∧ (decode cX9_refusal 46 = .ok (.ireturn, 1)) ∧ (decode cX9_refusal 47 = .ok (.iload_n 3, 1)) ∧ (decode cX9_refusal 48 = .ok (.ifCond .lt 19, 3)) ∧ (decode cX9_refusal 51 = .ok (.iload_n 3, 1)) ∧ (decode cX9_refusal 52 = .ok (.aload_n 0, 1)) ∧ (decode cX9_refusal 53 = .ok (.getfield 71, 3)) ∧ (decode cX9_refusal 56 = .ok (.iload_n 1, 1)) ∧ (decode cX9_refusal 57 = .ok (.aaload, 1)) := by decide +kernel
theorem dX9_refusal_31 : decode cX9_refusal 31 = .ok (.aload_n 0, 1) := bdX9_refusal_31.1
theorem dX9_refusal_32 : decode cX9_refusal 32 = .ok (.getfield 71, 3) := bdX9_refusal_31.2.1
theorem dX9_refusal_35 : decode cX9_refusal 35 = .ok (.iload_n 1, 1) := bdX9_refusal_31.2.2.1
theorem dX9_refusal_36 : decode cX9_refusal 36 = .ok (.aaload, 1) := bdX9_refusal_31.2.2.2.1
theorem dX9_refusal_37 : decode cX9_refusal 37 = .ok (.getfield 300, 3) := bdX9_refusal_31.2.2.2.2.1
theorem dX9_refusal_40 : decode cX9_refusal 40 = .ok (.iload_n 2, 1) := bdX9_refusal_31.2.2.2.2.2.1
theorem dX9_refusal_41 : decode cX9_refusal 41 = .ok (.if_icmp .eq 6, 3) := bdX9_refusal_31.2.2.2.2.2.2.1
theorem dX9_refusal_44 : decode cX9_refusal 44 = .ok (.bipush (-12), 2) := bdX9_refusal_31.2.2.2.2.2.2.2.1
theorem dX9_refusal_46 : decode cX9_refusal 46 = .ok (.ireturn, 1) := bdX9_refusal_31.2.2.2.2.2.2.2.2.1
theorem dX9_refusal_47 : decode cX9_refusal 47 = .ok (.iload_n 3, 1) := bdX9_refusal_31.2.2.2.2.2.2.2.2.2.1
theorem dX9_refusal_48 : decode cX9_refusal 48 = .ok (.ifCond .lt 19, 3) := bdX9_refusal_31.2.2.2.2.2.2.2.2.2.2.1
theorem dX9_refusal_51 : decode cX9_refusal 51 = .ok (.iload_n 3, 1) := bdX9_refusal_31.2.2.2.2.2.2.2.2.2.2.2.1
theorem dX9_refusal_52 : decode cX9_refusal 52 = .ok (.aload_n 0, 1) := bdX9_refusal_31.2.2.2.2.2.2.2.2.2.2.2.2.1
theorem dX9_refusal_53 : decode cX9_refusal 53 = .ok (.getfield 71, 3) := bdX9_refusal_31.2.2.2.2.2.2.2.2.2.2.2.2.2.1
theorem dX9_refusal_56 : decode cX9_refusal 56 = .ok (.iload_n 1, 1) := bdX9_refusal_31.2.2.2.2.2.2.2.2.2.2.2.2.2.2.1
theorem dX9_refusal_57 : decode cX9_refusal 57 = .ok (.aaload, 1) := bdX9_refusal_31.2.2.2.2.2.2.2.2.2.2.2.2.2.2.2
theorem bdX9_refusal_58 : (decode cX9_refusal 58 = .ok (.getfield 278, 3)) ∧ (decode cX9_refusal 61 = .ok (.iload 4, 2)) ∧ (decode cX9_refusal 63 = .ok (.isub, 1)) ∧ (decode cX9_refusal 64 = .ok (.if_icmp .le 8, 3)) ∧ (decode cX9_refusal 67 = .ok (.bipush (-13), 2)) ∧ (decode cX9_refusal 69 = .ok (.goto 4, 3)) ∧ (decode cX9_refusal 72 = .ok (.iconst 0, 1)) ∧ (decode cX9_refusal 73 = .ok (.ireturn, 1)) := by decide +kernel
theorem dX9_refusal_58 : decode cX9_refusal 58 = .ok (.getfield 278, 3) := bdX9_refusal_58.1
theorem dX9_refusal_61 : decode cX9_refusal 61 = .ok (.iload 4, 2) := bdX9_refusal_58.2.1
theorem dX9_refusal_63 : decode cX9_refusal 63 = .ok (.isub, 1) := bdX9_refusal_58.2.2.1
theorem dX9_refusal_64 : decode cX9_refusal 64 = .ok (.if_icmp .le 8, 3) := bdX9_refusal_58.2.2.2.1
theorem dX9_refusal_67 : decode cX9_refusal 67 = .ok (.bipush (-13), 2) := bdX9_refusal_58.2.2.2.2.1
theorem dX9_refusal_69 : decode cX9_refusal 69 = .ok (.goto 4, 3) := bdX9_refusal_58.2.2.2.2.2.1
theorem dX9_refusal_72 : decode cX9_refusal 72 = .ok (.iconst 0, 1) := bdX9_refusal_58.2.2.2.2.2.2.1
theorem dX9_refusal_73 : decode cX9_refusal 73 = .ok (.ireturn, 1) := bdX9_refusal_58.2.2.2.2.2.2.2
set_option maxHeartbeats 4000000 in
set_option maxRecDepth 100000 in
theorem k_X9_refusal (l : Launch) (dC : Nat → ClassId) (dI : Nat → Nat → Nat) (h : Nat → Nat) (cs : Nat → ClassId) (sz : Nat) (I : Nat → Int32) (L : Nat → Int64) (A : Nat → Nat → Int32) (Q : Nat → Nat → Int64) (G : Nat → Nat → Nat → Int32) (J : Nat → Nat → Nat → Int64) (x y z : Int32) (c9 : Nat) (hc25 : c9 ≤ 25) (hln : ∀ k : Nat, k < 4 → ∃ ln : Nat, ln ≤ 25 ∧ I (224 + k) = nI ln) : Met l yX9_refusal wsX9_refusal ({ frames := 1, cells := 0, slots := 0, locals := 20 }) (va_Pc [.ref (h 100), .int x, .int y, .int z, .int (nI c9)] (xPre (dC, dI) (wFS h cs I L A Q G J) (tysA cs) sz)) (va_Qi (fun (r : Int32) (u : CS) => (rfP I x y z c9 r) ∧ u = (I, L, A, Q, G, J)) (xB (dC, dI) (tysA cs) (va_A (wFS h cs I L A Q G J) sz) (fun u : CS => wFS h cs u.1 u.2.1 u.2.2.1 u.2.2.2.1 u.2.2.2.2.1 u.2.2.2.2.2)) (va_A (wFS h cs I L A Q G J) sz)) 0 0 (va_A (wFS h cs I L A Q G J) sz) := by
  refine Met.ofW (cc := cX9_refusal) (maxL := 5) (ret := (some .int)) (by decide) rfl ?_
  intro p e s m args below meth c s₁ B hml hv
  obtain ⟨rfl, hsz, hP, hK, hD0, hN⟩ := hv
  have hx := B.exec
  have hb := B.bytes
  have hr := B.returns
  have hts := atoms_spec (ws := wsX9_refusal) B.pre
  have hown : s.vm.findClass RX9 = some m.cls := findClass_of_methodNamed B.named
  have hlocks := B.notSynchronized
  subst hsz
  have hD := hD0.self (sz := s.heap.size)
  generalize hAe : va_A (wFS h cs I L A Q G J) s.heap.size = A0 at hD ⊢
  have hA : ∀ q : Nat, s.heap.size ≤ q → A0 q := fun q h => by rw [← hAe]; exact Or.inr h
  have hl := lv_entry ([.ref (h 100), .int x, .int y, .int z, .int (nI c9)]) (n := 5) (Nat.le_of_ble_eq_true rfl)
  rw [lg_entry_eq]
  generalize (lg_sl ([.ref (h 100), .int x, .int y, .int z, .int (nI c9)]) ++ List.replicate (5 - (lg_sl ([.ref (h 100), .int x, .int y, .int z, .int (nI c9)])).length) Slot.unset).toArray = ls at hl ⊢
  have hl : lv_has ls 5 [(0, .ref (h 100)), (1, .int x), (2, .int y), (3, .int z), (4, .int (nI c9))] := hl
  generalize hH : s.heap = H at hP ⊢
  have hS : va_S A0 s.heap H [] := by rw [← hH]; exact va_S.rf
  have hinX9 : ∀ w ∈ wsX90, w ∈ wsX9_refusal := by decide +kernel
  have hinX5 : ∀ w ∈ wsX50, w ∈ wsX9_refusal := by decide +kernel
  refine lv_iload_n hx hb dX9_refusal_0 rfl (lv_at hl 1 rfl) ?_
  refine xj_i (wc := ([] : va_W)) (wr := (wFS h cs I L A Q G J)) hP hD hS hA [] [0, 1, 2, 3, 4, 5, 6, 7, 8, 9] rfl rfl (by decide +kernel) (by decide +kernel) (va_runS (As := [.int x]) (rest := []) ⟨hx, hb, hml, hown, hts⟩ (k_X9_isSheet l dC dI h cs H.size I L A Q G J x) (va_cwS 1 hts gX9_refusal_X9_isSheet rfl rfl rfl (by decide +kernel) ⟨Nat.le_of_ble_eq_true rfl, Nat.le_of_ble_eq_true rfl⟩) (xpS (wc := ([] : va_W)) hP hD hK hN [] rfl (by decide) _) rfl rfl hl.1 rfl (lv_room (Nat.le_of_ble_eq_true rfl)) dX9_refusal_1 ⟨Nat.zero_le _, Nat.zero_le _⟩) (fun r_2 u_1 H locs hw hP hD hS => ?_)
  obtain ⟨hf_3, rfl⟩ := hw
  have hP : va_P (dC, dI) vwCl (wFS h cs I L A Q G J) H := hP
  have hD : va_D A0 (wFS h cs I L A Q G J) := hD
  rcases hf_3 with ⟨rfl, is9, his9, hxs9⟩ | ⟨rfl, hns9⟩
  · skip
    rcases (show is9 = 0 ∨ is9 = 1 ∨ is9 = 2 ∨ is9 = 3 by omega) with rfl | rfl | rfl | rfl
    · skip
      rw [hxs9] at hl
      refine lv_if_eq (tgt := 14) hx hb dX9_refusal_4 (by decide) (fun c9 => False.elim (by revert c9; decide +kernel)) (fun _ => ?_)
      refine lv_iload_n hx hb dX9_refusal_7 rfl (lv_at hl 2 rfl) ?_
      refine xj_i (wc := ([] : va_W)) (wr := (wFS h cs I L A Q G J)) hP hD hS hA [] [0, 1, 2, 3, 4, 5, 6, 7, 8, 9] rfl rfl (by decide +kernel) (by decide +kernel) (va_runS (As := [.int y]) (rest := []) ⟨hx, hb, hml, hown, hts⟩ (k_X9_isLane l dC dI h cs H.size I L A Q G J y) (va_cwS 1 hts gX9_refusal_X9_isLane rfl rfl rfl (by decide +kernel) ⟨Nat.le_of_ble_eq_true rfl, Nat.le_of_ble_eq_true rfl⟩) (xpS (wc := ([] : va_W)) hP hD hK hN [] rfl (by decide) _) rfl rfl hl.1 rfl (lv_room (Nat.le_of_ble_eq_true rfl)) dX9_refusal_8 ⟨Nat.zero_le _, Nat.zero_le _⟩) (fun r_5 u_4 H locs hw hP hD hS => ?_)
      obtain ⟨hf_6, rfl⟩ := hw
      have hP : va_P (dC, dI) vwCl (wFS h cs I L A Q G J) H := hP
      have hD : va_D A0 (wFS h cs I L A Q G J) := hD
      rcases hf_6 with ⟨rfl, i_7, hi_8, hx_9⟩ | ⟨rfl, hn_10⟩
      · skip
        rw [hx_9] at hl
        refine lv_if_ne (tgt := 16) hx hb dX9_refusal_11 (by decide) (fun _ => ?_) (fun c9 => False.elim (by revert c9; decide +kernel))
        refine lv_aload_n hx hb dX9_refusal_16 rfl (lv_at hl 0 rfl) ?_
        refine va_get (D := (dC, dI)) (ci := 9) (v := .ref (h 109)) (C := RX9) (T := TX9) (N := 9) hx hb hts hinX9 hown hK hP 0 rfl rfl 8 (by decide) (hts (.fieldLink RX9 71 "MixedWords" "sheets" "[LMixedWords$Sheet;") (by decide +kernel)) (fun _ h9 => h9) rfl dX9_refusal_17 ?_
        refine lv_iload_n hx hb dX9_refusal_20 rfl (lv_at hl 1 rfl) ?_
        refine xa_aald (b := h 110) hx hb hK hP 1 5 rfl rfl rfl (by omega) (by decide) (if_pos (by omega)) dX9_refusal_21 ?_
        refine xj_i (wc := (wSheet (fun k => h (k + 0)) cs (fun k => I (k + 0)) L A (fun k => Q (k + 0)) G J)) (wr := [(h 100, .inr (9, [.ref (h 101), .ref (h 102), .ref (h 103), .ref (h 104), .ref (h 105), .ref (h 106), .ref (h 107), .ref (h 108), .ref (h 109)])), (h 109, .inl (cs 5, 4, .inr (.inr (.inr (.inr (fun i => if i < 4 then some (h (i + 110)) else none)))))), (h 111, .inr (5, [.int (I 221), .int (I 225), .ref (h 229)])), (h 229, .inl (cs 1, 25, .inr (.inl (Q 229)))), (h 112, .inr (5, [.int (I 222), .int (I 226), .ref (h 230)])), (h 230, .inl (cs 1, 25, .inr (.inl (Q 230)))), (h 113, .inr (5, [.int (I 223), .int (I 227), .ref (h 231)])), (h 231, .inl (cs 1, 25, .inr (.inl (Q 231))))]) hP hD hS hA [2, 3] [0, 1, 4, 5, 6, 7, 8, 9] rfl rfl (by decide +kernel) (by decide +kernel) (va_runV (As := []) (rest := []) ⟨hx, hb, hml, hown, hts⟩ (k_X5_holds l dC dI (fun k => h (k + 0)) cs H.size (fun k => I (k + 0)) L A (fun k => Q (k + 0)) G J ) (cwV 0 hts gX9_refusal_X5_holds rfl rfl rfl (by decide +kernel) ⟨Nat.le_of_ble_eq_true rfl, Nat.le_of_ble_eq_true rfl⟩) (xpV (wc := (wSheet (fun k => h (k + 0)) cs (fun k => I (k + 0)) L A (fun k => Q (k + 0)) G J)) hP hD hK hN [2, 3] rfl (by decide) 2 (ci := 5) rfl rfl _) rfl rfl hl.1 rfl (lv_room (Nat.le_of_ble_eq_true rfl)) dX9_refusal_22 ⟨Nat.zero_le _, Nat.zero_le _⟩) (fun r_12 u_11 H locs hw hP hD hS => ?_)
        obtain ⟨hf_13, rfl⟩ := hw
        have hP : va_P (dC, dI) vwCl (wFS h cs I L A Q G J) H := xP_sub hP [0, 1, 8, 9, 2, 3, 4, 5, 6, 7] rfl
        have hD : va_D A0 (wFS h cs I L A Q G J) := hD.sub [0, 1, 8, 9, 2, 3, 4, 5, 6, 7] (by decide +kernel) rfl
        rcases (show (r_12 = nI 1 ∧ ¬ I 220 = -1) ∨ (r_12 = nI 0 ∧ I 220 = -1) from hf_13) with ⟨rfl, hho_14⟩ | ⟨rfl, hho_14⟩
        · skip
          refine lv_if_ne (tgt := 31) hx hb dX9_refusal_25 (by decide) (fun _ => ?_) (fun c9 => False.elim (by revert c9; decide +kernel))
          refine lv_aload_n hx hb dX9_refusal_31 rfl (lv_at hl 0 rfl) ?_
          refine va_get (D := (dC, dI)) (ci := 9) (v := .ref (h 109)) (C := RX9) (T := TX9) (N := 9) hx hb hts hinX9 hown hK hP 0 rfl rfl 8 (by decide) (hts (.fieldLink RX9 71 "MixedWords" "sheets" "[LMixedWords$Sheet;") (by decide +kernel)) (fun _ h9 => h9) rfl dX9_refusal_32 ?_
          refine lv_iload_n hx hb dX9_refusal_35 rfl (lv_at hl 1 rfl) ?_
          refine xa_aald (b := h 110) hx hb hK hP 1 5 rfl rfl rfl (by omega) (by decide) (if_pos (by omega)) dX9_refusal_36 ?_
          refine va_get (D := (dC, dI)) (ci := 5) (v := .int (I 220)) (C := RX5) (T := TX5) (N := 3) hx hb hts hinX5 hown hK hP 2 rfl rfl 0 (by decide) (hts (.fieldLink RX9 300 "MixedWords$Sheet" "lane" "I") (by decide +kernel)) (fun _ h9 => h9) rfl dX9_refusal_37 ?_
          refine lv_iload_n hx hb dX9_refusal_40 rfl (lv_at hl 2 rfl) ?_
          refine lv_icmp_eq (tgt := 47) hx hb dX9_refusal_41 (by decide) (fun c_41_14 => ?_) (fun c_41_14 => ?_)
          · skip
            refine lv_iload_n hx hb dX9_refusal_47 rfl (lv_at hl 3 rfl) ?_
            refine lv_if_lt (tgt := 67) hx hb dX9_refusal_48 (by decide) (fun c_48_15 => ?_) (fun c_48_15 => ?_)
            · skip
              refine lv_bipush (v := (-13)) hx hb dX9_refusal_67 (by decide) ?_
              refine lv_goto (tgt := 73) hx hb dX9_refusal_69 (by decide) ?_
              exact xr_i (v := (-13)) hx hb hr hlocks hK hS dX9_refusal_73 (I, L, A, Q, G, J) ⟨(Or.inr ⟨0, i_7, by omega, hi_8, hxs9, hx_9, Or.inr (Or.inr ⟨hho_14, by assumption, Or.inl ⟨rfl, by first | exact ix_no1 (ln := 0) (by assumption) | exact ix_no2 hln9 hc25 hle9 (by assumption)⟩⟩)⟩), rfl⟩ hP hD
            · skip
              refine lv_iload_n hx hb dX9_refusal_51 rfl (lv_at hl 3 rfl) ?_
              refine lv_aload_n hx hb dX9_refusal_52 rfl (lv_at hl 0 rfl) ?_
              refine va_get (D := (dC, dI)) (ci := 9) (v := .ref (h 109)) (C := RX9) (T := TX9) (N := 9) hx hb hts hinX9 hown hK hP 0 rfl rfl 8 (by decide) (hts (.fieldLink RX9 71 "MixedWords" "sheets" "[LMixedWords$Sheet;") (by decide +kernel)) (fun _ h9 => h9) rfl dX9_refusal_53 ?_
              refine lv_iload_n hx hb dX9_refusal_56 rfl (lv_at hl 1 rfl) ?_
              refine xa_aald (b := h 110) hx hb hK hP 1 5 rfl rfl rfl (by omega) (by decide) (if_pos (by omega)) dX9_refusal_57 ?_
              refine va_get (D := (dC, dI)) (ci := 5) (v := .int (I 224)) (C := RX5) (T := TX5) (N := 3) hx hb hts hinX5 hown hK hP 2 rfl rfl 1 (by decide) (hts (.fieldLink RX9 278 "MixedWords$Sheet" "length" "I") (by decide +kernel)) (fun _ h9 => h9) rfl dX9_refusal_58 ?_
              obtain ⟨ln9, hln9, hle9⟩ := hln 0 (by decide)
              have hle9 : I 224 = nI ln9 := hle9
              refine xt_i (y := nI ln9) (hle9) ?_
              refine lv_iload hx hb dX9_refusal_61 (lv_at hl 4 rfl) ?_
              refine lv_isub hx hb dX9_refusal_63 ?_
              refine lv_icmp_le (tgt := 72) hx hb dX9_refusal_64 (by decide) (fun c_64_16 => ?_) (fun c_64_16 => ?_)
              · skip
                refine lv_iconst (v := nI 0) hx hb dX9_refusal_72 (by decide) ?_
                exact xr_i (v := (nI 0)) hx hb hr hlocks hK hS dX9_refusal_73 (I, L, A, Q, G, J) ⟨(Or.inr ⟨0, i_7, by omega, hi_8, hxs9, hx_9, Or.inr (Or.inr ⟨hho_14, by assumption, Or.inr ⟨rfl, by obtain ⟨iz, hz1, hz2⟩ := ix_yes (z := z) (ln := ln9) (c9 := c9) (by assumption) hln9 hc25 (by assumption); exact ⟨iz, ln9, hln9, hz1, hle9, hz2⟩⟩⟩)⟩), rfl⟩ hP hD
              · skip
                refine lv_bipush (v := (-13)) hx hb dX9_refusal_67 (by decide) ?_
                refine lv_goto (tgt := 73) hx hb dX9_refusal_69 (by decide) ?_
                exact xr_i (v := (-13)) hx hb hr hlocks hK hS dX9_refusal_73 (I, L, A, Q, G, J) ⟨(Or.inr ⟨0, i_7, by omega, hi_8, hxs9, hx_9, Or.inr (Or.inr ⟨hho_14, by assumption, Or.inl ⟨rfl, by first | exact ix_no1 (ln := 0) (by assumption) | exact ix_no2 hln9 hc25 hle9 (by assumption)⟩⟩)⟩), rfl⟩ hP hD
          · skip
            refine lv_bipush (v := (-12)) hx hb dX9_refusal_44 (by decide) ?_
            exact xr_i (v := (-12)) hx hb hr hlocks hK hS dX9_refusal_46 (I, L, A, Q, G, J) ⟨(Or.inr ⟨0, i_7, by omega, hi_8, hxs9, hx_9, Or.inr (Or.inl ⟨hho_14, by assumption, rfl⟩)⟩), rfl⟩ hP hD
        · skip
          refine lv_if_ne (tgt := 31) hx hb dX9_refusal_25 (by decide) (fun c9 => False.elim (by revert c9; decide +kernel)) (fun _ => ?_)
          refine lv_bipush (v := (-11)) hx hb dX9_refusal_28 (by decide) ?_
          exact xr_i (v := (-11)) hx hb hr hlocks hK hS dX9_refusal_30 (I, L, A, Q, G, J) ⟨(Or.inr ⟨0, i_7, by omega, hi_8, hxs9, hx_9, Or.inl ⟨hho_14, rfl⟩⟩), rfl⟩ hP hD
      · skip
        refine lv_if_ne (tgt := 16) hx hb dX9_refusal_11 (by decide) (fun c9 => False.elim (by revert c9; decide +kernel)) (fun _ => ?_)
        refine lv_iconst (v := (-1)) hx hb dX9_refusal_14 (by decide) ?_
        exact xr_i (v := (-1)) hx hb hr hlocks hK hS dX9_refusal_15 (I, L, A, Q, G, J) ⟨(Or.inl ⟨rfl, fun s v a9 b9 c9 d9 => hn_10 v b9 d9⟩), rfl⟩ hP hD
    · skip
      rw [hxs9] at hl
      refine lv_if_eq (tgt := 14) hx hb dX9_refusal_4 (by decide) (fun c9 => False.elim (by revert c9; decide +kernel)) (fun _ => ?_)
      refine lv_iload_n hx hb dX9_refusal_7 rfl (lv_at hl 2 rfl) ?_
      refine xj_i (wc := ([] : va_W)) (wr := (wFS h cs I L A Q G J)) hP hD hS hA [] [0, 1, 2, 3, 4, 5, 6, 7, 8, 9] rfl rfl (by decide +kernel) (by decide +kernel) (va_runS (As := [.int y]) (rest := []) ⟨hx, hb, hml, hown, hts⟩ (k_X9_isLane l dC dI h cs H.size I L A Q G J y) (va_cwS 1 hts gX9_refusal_X9_isLane rfl rfl rfl (by decide +kernel) ⟨Nat.le_of_ble_eq_true rfl, Nat.le_of_ble_eq_true rfl⟩) (xpS (wc := ([] : va_W)) hP hD hK hN [] rfl (by decide) _) rfl rfl hl.1 rfl (lv_room (Nat.le_of_ble_eq_true rfl)) dX9_refusal_8 ⟨Nat.zero_le _, Nat.zero_le _⟩) (fun r_19 u_18 H locs hw hP hD hS => ?_)
      obtain ⟨hf_20, rfl⟩ := hw
      have hP : va_P (dC, dI) vwCl (wFS h cs I L A Q G J) H := hP
      have hD : va_D A0 (wFS h cs I L A Q G J) := hD
      rcases hf_20 with ⟨rfl, i_21, hi_22, hx_23⟩ | ⟨rfl, hn_24⟩
      · skip
        rw [hx_23] at hl
        refine lv_if_ne (tgt := 16) hx hb dX9_refusal_11 (by decide) (fun _ => ?_) (fun c9 => False.elim (by revert c9; decide +kernel))
        refine lv_aload_n hx hb dX9_refusal_16 rfl (lv_at hl 0 rfl) ?_
        refine va_get (D := (dC, dI)) (ci := 9) (v := .ref (h 109)) (C := RX9) (T := TX9) (N := 9) hx hb hts hinX9 hown hK hP 0 rfl rfl 8 (by decide) (hts (.fieldLink RX9 71 "MixedWords" "sheets" "[LMixedWords$Sheet;") (by decide +kernel)) (fun _ h9 => h9) rfl dX9_refusal_17 ?_
        refine lv_iload_n hx hb dX9_refusal_20 rfl (lv_at hl 1 rfl) ?_
        refine xa_aald (b := h 111) hx hb hK hP 1 5 rfl rfl rfl (by omega) (by decide) (if_pos (by omega)) dX9_refusal_21 ?_
        refine xj_i (wc := (wSheet (fun k => h (k + 1)) cs (fun k => I (k + 1)) L A (fun k => Q (k + 1)) G J)) (wr := [(h 100, .inr (9, [.ref (h 101), .ref (h 102), .ref (h 103), .ref (h 104), .ref (h 105), .ref (h 106), .ref (h 107), .ref (h 108), .ref (h 109)])), (h 109, .inl (cs 5, 4, .inr (.inr (.inr (.inr (fun i => if i < 4 then some (h (i + 110)) else none)))))), (h 110, .inr (5, [.int (I 220), .int (I 224), .ref (h 228)])), (h 228, .inl (cs 1, 25, .inr (.inl (Q 228)))), (h 112, .inr (5, [.int (I 222), .int (I 226), .ref (h 230)])), (h 230, .inl (cs 1, 25, .inr (.inl (Q 230)))), (h 113, .inr (5, [.int (I 223), .int (I 227), .ref (h 231)])), (h 231, .inl (cs 1, 25, .inr (.inl (Q 231))))]) hP hD hS hA [4, 5] [0, 1, 2, 3, 6, 7, 8, 9] rfl rfl (by decide +kernel) (by decide +kernel) (va_runV (As := []) (rest := []) ⟨hx, hb, hml, hown, hts⟩ (k_X5_holds l dC dI (fun k => h (k + 1)) cs H.size (fun k => I (k + 1)) L A (fun k => Q (k + 1)) G J ) (cwV 0 hts gX9_refusal_X5_holds rfl rfl rfl (by decide +kernel) ⟨Nat.le_of_ble_eq_true rfl, Nat.le_of_ble_eq_true rfl⟩) (xpV (wc := (wSheet (fun k => h (k + 1)) cs (fun k => I (k + 1)) L A (fun k => Q (k + 1)) G J)) hP hD hK hN [4, 5] rfl (by decide) 4 (ci := 5) rfl rfl _) rfl rfl hl.1 rfl (lv_room (Nat.le_of_ble_eq_true rfl)) dX9_refusal_22 ⟨Nat.zero_le _, Nat.zero_le _⟩) (fun r_26 u_25 H locs hw hP hD hS => ?_)
        obtain ⟨hf_27, rfl⟩ := hw
        have hP : va_P (dC, dI) vwCl (wFS h cs I L A Q G J) H := xP_sub hP [0, 1, 2, 3, 8, 9, 4, 5, 6, 7] rfl
        have hD : va_D A0 (wFS h cs I L A Q G J) := hD.sub [0, 1, 2, 3, 8, 9, 4, 5, 6, 7] (by decide +kernel) rfl
        rcases (show (r_26 = nI 1 ∧ ¬ I 221 = -1) ∨ (r_26 = nI 0 ∧ I 221 = -1) from hf_27) with ⟨rfl, hho_28⟩ | ⟨rfl, hho_28⟩
        · skip
          refine lv_if_ne (tgt := 31) hx hb dX9_refusal_25 (by decide) (fun _ => ?_) (fun c9 => False.elim (by revert c9; decide +kernel))
          refine lv_aload_n hx hb dX9_refusal_31 rfl (lv_at hl 0 rfl) ?_
          refine va_get (D := (dC, dI)) (ci := 9) (v := .ref (h 109)) (C := RX9) (T := TX9) (N := 9) hx hb hts hinX9 hown hK hP 0 rfl rfl 8 (by decide) (hts (.fieldLink RX9 71 "MixedWords" "sheets" "[LMixedWords$Sheet;") (by decide +kernel)) (fun _ h9 => h9) rfl dX9_refusal_32 ?_
          refine lv_iload_n hx hb dX9_refusal_35 rfl (lv_at hl 1 rfl) ?_
          refine xa_aald (b := h 111) hx hb hK hP 1 5 rfl rfl rfl (by omega) (by decide) (if_pos (by omega)) dX9_refusal_36 ?_
          refine va_get (D := (dC, dI)) (ci := 5) (v := .int (I 221)) (C := RX5) (T := TX5) (N := 3) hx hb hts hinX5 hown hK hP 4 rfl rfl 0 (by decide) (hts (.fieldLink RX9 300 "MixedWords$Sheet" "lane" "I") (by decide +kernel)) (fun _ h9 => h9) rfl dX9_refusal_37 ?_
          refine lv_iload_n hx hb dX9_refusal_40 rfl (lv_at hl 2 rfl) ?_
          refine lv_icmp_eq (tgt := 47) hx hb dX9_refusal_41 (by decide) (fun c_41_28 => ?_) (fun c_41_28 => ?_)
          · skip
            refine lv_iload_n hx hb dX9_refusal_47 rfl (lv_at hl 3 rfl) ?_
            refine lv_if_lt (tgt := 67) hx hb dX9_refusal_48 (by decide) (fun c_48_29 => ?_) (fun c_48_29 => ?_)
            · skip
              refine lv_bipush (v := (-13)) hx hb dX9_refusal_67 (by decide) ?_
              refine lv_goto (tgt := 73) hx hb dX9_refusal_69 (by decide) ?_
              exact xr_i (v := (-13)) hx hb hr hlocks hK hS dX9_refusal_73 (I, L, A, Q, G, J) ⟨(Or.inr ⟨1, i_21, by omega, hi_22, hxs9, hx_23, Or.inr (Or.inr ⟨hho_28, by assumption, Or.inl ⟨rfl, by first | exact ix_no1 (ln := 0) (by assumption) | exact ix_no2 hln9 hc25 hle9 (by assumption)⟩⟩)⟩), rfl⟩ hP hD
            · skip
              refine lv_iload_n hx hb dX9_refusal_51 rfl (lv_at hl 3 rfl) ?_
              refine lv_aload_n hx hb dX9_refusal_52 rfl (lv_at hl 0 rfl) ?_
              refine va_get (D := (dC, dI)) (ci := 9) (v := .ref (h 109)) (C := RX9) (T := TX9) (N := 9) hx hb hts hinX9 hown hK hP 0 rfl rfl 8 (by decide) (hts (.fieldLink RX9 71 "MixedWords" "sheets" "[LMixedWords$Sheet;") (by decide +kernel)) (fun _ h9 => h9) rfl dX9_refusal_53 ?_
              refine lv_iload_n hx hb dX9_refusal_56 rfl (lv_at hl 1 rfl) ?_
              refine xa_aald (b := h 111) hx hb hK hP 1 5 rfl rfl rfl (by omega) (by decide) (if_pos (by omega)) dX9_refusal_57 ?_
              refine va_get (D := (dC, dI)) (ci := 5) (v := .int (I 225)) (C := RX5) (T := TX5) (N := 3) hx hb hts hinX5 hown hK hP 4 rfl rfl 1 (by decide) (hts (.fieldLink RX9 278 "MixedWords$Sheet" "length" "I") (by decide +kernel)) (fun _ h9 => h9) rfl dX9_refusal_58 ?_
              obtain ⟨ln9, hln9, hle9⟩ := hln 1 (by decide)
              have hle9 : I 225 = nI ln9 := hle9
              refine xt_i (y := nI ln9) (hle9) ?_
              refine lv_iload hx hb dX9_refusal_61 (lv_at hl 4 rfl) ?_
              refine lv_isub hx hb dX9_refusal_63 ?_
              refine lv_icmp_le (tgt := 72) hx hb dX9_refusal_64 (by decide) (fun c_64_30 => ?_) (fun c_64_30 => ?_)
              · skip
                refine lv_iconst (v := nI 0) hx hb dX9_refusal_72 (by decide) ?_
                exact xr_i (v := (nI 0)) hx hb hr hlocks hK hS dX9_refusal_73 (I, L, A, Q, G, J) ⟨(Or.inr ⟨1, i_21, by omega, hi_22, hxs9, hx_23, Or.inr (Or.inr ⟨hho_28, by assumption, Or.inr ⟨rfl, by obtain ⟨iz, hz1, hz2⟩ := ix_yes (z := z) (ln := ln9) (c9 := c9) (by assumption) hln9 hc25 (by assumption); exact ⟨iz, ln9, hln9, hz1, hle9, hz2⟩⟩⟩)⟩), rfl⟩ hP hD
              · skip
                refine lv_bipush (v := (-13)) hx hb dX9_refusal_67 (by decide) ?_
                refine lv_goto (tgt := 73) hx hb dX9_refusal_69 (by decide) ?_
                exact xr_i (v := (-13)) hx hb hr hlocks hK hS dX9_refusal_73 (I, L, A, Q, G, J) ⟨(Or.inr ⟨1, i_21, by omega, hi_22, hxs9, hx_23, Or.inr (Or.inr ⟨hho_28, by assumption, Or.inl ⟨rfl, by first | exact ix_no1 (ln := 0) (by assumption) | exact ix_no2 hln9 hc25 hle9 (by assumption)⟩⟩)⟩), rfl⟩ hP hD
          · skip
            refine lv_bipush (v := (-12)) hx hb dX9_refusal_44 (by decide) ?_
            exact xr_i (v := (-12)) hx hb hr hlocks hK hS dX9_refusal_46 (I, L, A, Q, G, J) ⟨(Or.inr ⟨1, i_21, by omega, hi_22, hxs9, hx_23, Or.inr (Or.inl ⟨hho_28, by assumption, rfl⟩)⟩), rfl⟩ hP hD
        · skip
          refine lv_if_ne (tgt := 31) hx hb dX9_refusal_25 (by decide) (fun c9 => False.elim (by revert c9; decide +kernel)) (fun _ => ?_)
          refine lv_bipush (v := (-11)) hx hb dX9_refusal_28 (by decide) ?_
          exact xr_i (v := (-11)) hx hb hr hlocks hK hS dX9_refusal_30 (I, L, A, Q, G, J) ⟨(Or.inr ⟨1, i_21, by omega, hi_22, hxs9, hx_23, Or.inl ⟨hho_28, rfl⟩⟩), rfl⟩ hP hD
      · skip
        refine lv_if_ne (tgt := 16) hx hb dX9_refusal_11 (by decide) (fun c9 => False.elim (by revert c9; decide +kernel)) (fun _ => ?_)
        refine lv_iconst (v := (-1)) hx hb dX9_refusal_14 (by decide) ?_
        exact xr_i (v := (-1)) hx hb hr hlocks hK hS dX9_refusal_15 (I, L, A, Q, G, J) ⟨(Or.inl ⟨rfl, fun s v a9 b9 c9 d9 => hn_24 v b9 d9⟩), rfl⟩ hP hD
    · skip
      rw [hxs9] at hl
      refine lv_if_eq (tgt := 14) hx hb dX9_refusal_4 (by decide) (fun c9 => False.elim (by revert c9; decide +kernel)) (fun _ => ?_)
      refine lv_iload_n hx hb dX9_refusal_7 rfl (lv_at hl 2 rfl) ?_
      refine xj_i (wc := ([] : va_W)) (wr := (wFS h cs I L A Q G J)) hP hD hS hA [] [0, 1, 2, 3, 4, 5, 6, 7, 8, 9] rfl rfl (by decide +kernel) (by decide +kernel) (va_runS (As := [.int y]) (rest := []) ⟨hx, hb, hml, hown, hts⟩ (k_X9_isLane l dC dI h cs H.size I L A Q G J y) (va_cwS 1 hts gX9_refusal_X9_isLane rfl rfl rfl (by decide +kernel) ⟨Nat.le_of_ble_eq_true rfl, Nat.le_of_ble_eq_true rfl⟩) (xpS (wc := ([] : va_W)) hP hD hK hN [] rfl (by decide) _) rfl rfl hl.1 rfl (lv_room (Nat.le_of_ble_eq_true rfl)) dX9_refusal_8 ⟨Nat.zero_le _, Nat.zero_le _⟩) (fun r_33 u_32 H locs hw hP hD hS => ?_)
      obtain ⟨hf_34, rfl⟩ := hw
      have hP : va_P (dC, dI) vwCl (wFS h cs I L A Q G J) H := hP
      have hD : va_D A0 (wFS h cs I L A Q G J) := hD
      rcases hf_34 with ⟨rfl, i_35, hi_36, hx_37⟩ | ⟨rfl, hn_38⟩
      · skip
        rw [hx_37] at hl
        refine lv_if_ne (tgt := 16) hx hb dX9_refusal_11 (by decide) (fun _ => ?_) (fun c9 => False.elim (by revert c9; decide +kernel))
        refine lv_aload_n hx hb dX9_refusal_16 rfl (lv_at hl 0 rfl) ?_
        refine va_get (D := (dC, dI)) (ci := 9) (v := .ref (h 109)) (C := RX9) (T := TX9) (N := 9) hx hb hts hinX9 hown hK hP 0 rfl rfl 8 (by decide) (hts (.fieldLink RX9 71 "MixedWords" "sheets" "[LMixedWords$Sheet;") (by decide +kernel)) (fun _ h9 => h9) rfl dX9_refusal_17 ?_
        refine lv_iload_n hx hb dX9_refusal_20 rfl (lv_at hl 1 rfl) ?_
        refine xa_aald (b := h 112) hx hb hK hP 1 5 rfl rfl rfl (by omega) (by decide) (if_pos (by omega)) dX9_refusal_21 ?_
        refine xj_i (wc := (wSheet (fun k => h (k + 2)) cs (fun k => I (k + 2)) L A (fun k => Q (k + 2)) G J)) (wr := [(h 100, .inr (9, [.ref (h 101), .ref (h 102), .ref (h 103), .ref (h 104), .ref (h 105), .ref (h 106), .ref (h 107), .ref (h 108), .ref (h 109)])), (h 109, .inl (cs 5, 4, .inr (.inr (.inr (.inr (fun i => if i < 4 then some (h (i + 110)) else none)))))), (h 110, .inr (5, [.int (I 220), .int (I 224), .ref (h 228)])), (h 228, .inl (cs 1, 25, .inr (.inl (Q 228)))), (h 111, .inr (5, [.int (I 221), .int (I 225), .ref (h 229)])), (h 229, .inl (cs 1, 25, .inr (.inl (Q 229)))), (h 113, .inr (5, [.int (I 223), .int (I 227), .ref (h 231)])), (h 231, .inl (cs 1, 25, .inr (.inl (Q 231))))]) hP hD hS hA [6, 7] [0, 1, 2, 3, 4, 5, 8, 9] rfl rfl (by decide +kernel) (by decide +kernel) (va_runV (As := []) (rest := []) ⟨hx, hb, hml, hown, hts⟩ (k_X5_holds l dC dI (fun k => h (k + 2)) cs H.size (fun k => I (k + 2)) L A (fun k => Q (k + 2)) G J ) (cwV 0 hts gX9_refusal_X5_holds rfl rfl rfl (by decide +kernel) ⟨Nat.le_of_ble_eq_true rfl, Nat.le_of_ble_eq_true rfl⟩) (xpV (wc := (wSheet (fun k => h (k + 2)) cs (fun k => I (k + 2)) L A (fun k => Q (k + 2)) G J)) hP hD hK hN [6, 7] rfl (by decide) 6 (ci := 5) rfl rfl _) rfl rfl hl.1 rfl (lv_room (Nat.le_of_ble_eq_true rfl)) dX9_refusal_22 ⟨Nat.zero_le _, Nat.zero_le _⟩) (fun r_40 u_39 H locs hw hP hD hS => ?_)
        obtain ⟨hf_41, rfl⟩ := hw
        have hP : va_P (dC, dI) vwCl (wFS h cs I L A Q G J) H := xP_sub hP [0, 1, 2, 3, 4, 5, 8, 9, 6, 7] rfl
        have hD : va_D A0 (wFS h cs I L A Q G J) := hD.sub [0, 1, 2, 3, 4, 5, 8, 9, 6, 7] (by decide +kernel) rfl
        rcases (show (r_40 = nI 1 ∧ ¬ I 222 = -1) ∨ (r_40 = nI 0 ∧ I 222 = -1) from hf_41) with ⟨rfl, hho_42⟩ | ⟨rfl, hho_42⟩
        · skip
          refine lv_if_ne (tgt := 31) hx hb dX9_refusal_25 (by decide) (fun _ => ?_) (fun c9 => False.elim (by revert c9; decide +kernel))
          refine lv_aload_n hx hb dX9_refusal_31 rfl (lv_at hl 0 rfl) ?_
          refine va_get (D := (dC, dI)) (ci := 9) (v := .ref (h 109)) (C := RX9) (T := TX9) (N := 9) hx hb hts hinX9 hown hK hP 0 rfl rfl 8 (by decide) (hts (.fieldLink RX9 71 "MixedWords" "sheets" "[LMixedWords$Sheet;") (by decide +kernel)) (fun _ h9 => h9) rfl dX9_refusal_32 ?_
          refine lv_iload_n hx hb dX9_refusal_35 rfl (lv_at hl 1 rfl) ?_
          refine xa_aald (b := h 112) hx hb hK hP 1 5 rfl rfl rfl (by omega) (by decide) (if_pos (by omega)) dX9_refusal_36 ?_
          refine va_get (D := (dC, dI)) (ci := 5) (v := .int (I 222)) (C := RX5) (T := TX5) (N := 3) hx hb hts hinX5 hown hK hP 6 rfl rfl 0 (by decide) (hts (.fieldLink RX9 300 "MixedWords$Sheet" "lane" "I") (by decide +kernel)) (fun _ h9 => h9) rfl dX9_refusal_37 ?_
          refine lv_iload_n hx hb dX9_refusal_40 rfl (lv_at hl 2 rfl) ?_
          refine lv_icmp_eq (tgt := 47) hx hb dX9_refusal_41 (by decide) (fun c_41_42 => ?_) (fun c_41_42 => ?_)
          · skip
            refine lv_iload_n hx hb dX9_refusal_47 rfl (lv_at hl 3 rfl) ?_
            refine lv_if_lt (tgt := 67) hx hb dX9_refusal_48 (by decide) (fun c_48_43 => ?_) (fun c_48_43 => ?_)
            · skip
              refine lv_bipush (v := (-13)) hx hb dX9_refusal_67 (by decide) ?_
              refine lv_goto (tgt := 73) hx hb dX9_refusal_69 (by decide) ?_
              exact xr_i (v := (-13)) hx hb hr hlocks hK hS dX9_refusal_73 (I, L, A, Q, G, J) ⟨(Or.inr ⟨2, i_35, by omega, hi_36, hxs9, hx_37, Or.inr (Or.inr ⟨hho_42, by assumption, Or.inl ⟨rfl, by first | exact ix_no1 (ln := 0) (by assumption) | exact ix_no2 hln9 hc25 hle9 (by assumption)⟩⟩)⟩), rfl⟩ hP hD
            · skip
              refine lv_iload_n hx hb dX9_refusal_51 rfl (lv_at hl 3 rfl) ?_
              refine lv_aload_n hx hb dX9_refusal_52 rfl (lv_at hl 0 rfl) ?_
              refine va_get (D := (dC, dI)) (ci := 9) (v := .ref (h 109)) (C := RX9) (T := TX9) (N := 9) hx hb hts hinX9 hown hK hP 0 rfl rfl 8 (by decide) (hts (.fieldLink RX9 71 "MixedWords" "sheets" "[LMixedWords$Sheet;") (by decide +kernel)) (fun _ h9 => h9) rfl dX9_refusal_53 ?_
              refine lv_iload_n hx hb dX9_refusal_56 rfl (lv_at hl 1 rfl) ?_
              refine xa_aald (b := h 112) hx hb hK hP 1 5 rfl rfl rfl (by omega) (by decide) (if_pos (by omega)) dX9_refusal_57 ?_
              refine va_get (D := (dC, dI)) (ci := 5) (v := .int (I 226)) (C := RX5) (T := TX5) (N := 3) hx hb hts hinX5 hown hK hP 6 rfl rfl 1 (by decide) (hts (.fieldLink RX9 278 "MixedWords$Sheet" "length" "I") (by decide +kernel)) (fun _ h9 => h9) rfl dX9_refusal_58 ?_
              obtain ⟨ln9, hln9, hle9⟩ := hln 2 (by decide)
              have hle9 : I 226 = nI ln9 := hle9
              refine xt_i (y := nI ln9) (hle9) ?_
              refine lv_iload hx hb dX9_refusal_61 (lv_at hl 4 rfl) ?_
              refine lv_isub hx hb dX9_refusal_63 ?_
              refine lv_icmp_le (tgt := 72) hx hb dX9_refusal_64 (by decide) (fun c_64_44 => ?_) (fun c_64_44 => ?_)
              · skip
                refine lv_iconst (v := nI 0) hx hb dX9_refusal_72 (by decide) ?_
                exact xr_i (v := (nI 0)) hx hb hr hlocks hK hS dX9_refusal_73 (I, L, A, Q, G, J) ⟨(Or.inr ⟨2, i_35, by omega, hi_36, hxs9, hx_37, Or.inr (Or.inr ⟨hho_42, by assumption, Or.inr ⟨rfl, by obtain ⟨iz, hz1, hz2⟩ := ix_yes (z := z) (ln := ln9) (c9 := c9) (by assumption) hln9 hc25 (by assumption); exact ⟨iz, ln9, hln9, hz1, hle9, hz2⟩⟩⟩)⟩), rfl⟩ hP hD
              · skip
                refine lv_bipush (v := (-13)) hx hb dX9_refusal_67 (by decide) ?_
                refine lv_goto (tgt := 73) hx hb dX9_refusal_69 (by decide) ?_
                exact xr_i (v := (-13)) hx hb hr hlocks hK hS dX9_refusal_73 (I, L, A, Q, G, J) ⟨(Or.inr ⟨2, i_35, by omega, hi_36, hxs9, hx_37, Or.inr (Or.inr ⟨hho_42, by assumption, Or.inl ⟨rfl, by first | exact ix_no1 (ln := 0) (by assumption) | exact ix_no2 hln9 hc25 hle9 (by assumption)⟩⟩)⟩), rfl⟩ hP hD
          · skip
            refine lv_bipush (v := (-12)) hx hb dX9_refusal_44 (by decide) ?_
            exact xr_i (v := (-12)) hx hb hr hlocks hK hS dX9_refusal_46 (I, L, A, Q, G, J) ⟨(Or.inr ⟨2, i_35, by omega, hi_36, hxs9, hx_37, Or.inr (Or.inl ⟨hho_42, by assumption, rfl⟩)⟩), rfl⟩ hP hD
        · skip
          refine lv_if_ne (tgt := 31) hx hb dX9_refusal_25 (by decide) (fun c9 => False.elim (by revert c9; decide +kernel)) (fun _ => ?_)
          refine lv_bipush (v := (-11)) hx hb dX9_refusal_28 (by decide) ?_
          exact xr_i (v := (-11)) hx hb hr hlocks hK hS dX9_refusal_30 (I, L, A, Q, G, J) ⟨(Or.inr ⟨2, i_35, by omega, hi_36, hxs9, hx_37, Or.inl ⟨hho_42, rfl⟩⟩), rfl⟩ hP hD
      · skip
        refine lv_if_ne (tgt := 16) hx hb dX9_refusal_11 (by decide) (fun c9 => False.elim (by revert c9; decide +kernel)) (fun _ => ?_)
        refine lv_iconst (v := (-1)) hx hb dX9_refusal_14 (by decide) ?_
        exact xr_i (v := (-1)) hx hb hr hlocks hK hS dX9_refusal_15 (I, L, A, Q, G, J) ⟨(Or.inl ⟨rfl, fun s v a9 b9 c9 d9 => hn_38 v b9 d9⟩), rfl⟩ hP hD
    · skip
      rw [hxs9] at hl
      refine lv_if_eq (tgt := 14) hx hb dX9_refusal_4 (by decide) (fun c9 => False.elim (by revert c9; decide +kernel)) (fun _ => ?_)
      refine lv_iload_n hx hb dX9_refusal_7 rfl (lv_at hl 2 rfl) ?_
      refine xj_i (wc := ([] : va_W)) (wr := (wFS h cs I L A Q G J)) hP hD hS hA [] [0, 1, 2, 3, 4, 5, 6, 7, 8, 9] rfl rfl (by decide +kernel) (by decide +kernel) (va_runS (As := [.int y]) (rest := []) ⟨hx, hb, hml, hown, hts⟩ (k_X9_isLane l dC dI h cs H.size I L A Q G J y) (va_cwS 1 hts gX9_refusal_X9_isLane rfl rfl rfl (by decide +kernel) ⟨Nat.le_of_ble_eq_true rfl, Nat.le_of_ble_eq_true rfl⟩) (xpS (wc := ([] : va_W)) hP hD hK hN [] rfl (by decide) _) rfl rfl hl.1 rfl (lv_room (Nat.le_of_ble_eq_true rfl)) dX9_refusal_8 ⟨Nat.zero_le _, Nat.zero_le _⟩) (fun r_47 u_46 H locs hw hP hD hS => ?_)
      obtain ⟨hf_48, rfl⟩ := hw
      have hP : va_P (dC, dI) vwCl (wFS h cs I L A Q G J) H := hP
      have hD : va_D A0 (wFS h cs I L A Q G J) := hD
      rcases hf_48 with ⟨rfl, i_49, hi_50, hx_51⟩ | ⟨rfl, hn_52⟩
      · skip
        rw [hx_51] at hl
        refine lv_if_ne (tgt := 16) hx hb dX9_refusal_11 (by decide) (fun _ => ?_) (fun c9 => False.elim (by revert c9; decide +kernel))
        refine lv_aload_n hx hb dX9_refusal_16 rfl (lv_at hl 0 rfl) ?_
        refine va_get (D := (dC, dI)) (ci := 9) (v := .ref (h 109)) (C := RX9) (T := TX9) (N := 9) hx hb hts hinX9 hown hK hP 0 rfl rfl 8 (by decide) (hts (.fieldLink RX9 71 "MixedWords" "sheets" "[LMixedWords$Sheet;") (by decide +kernel)) (fun _ h9 => h9) rfl dX9_refusal_17 ?_
        refine lv_iload_n hx hb dX9_refusal_20 rfl (lv_at hl 1 rfl) ?_
        refine xa_aald (b := h 113) hx hb hK hP 1 5 rfl rfl rfl (by omega) (by decide) (if_pos (by omega)) dX9_refusal_21 ?_
        refine xj_i (wc := (wSheet (fun k => h (k + 3)) cs (fun k => I (k + 3)) L A (fun k => Q (k + 3)) G J)) (wr := [(h 100, .inr (9, [.ref (h 101), .ref (h 102), .ref (h 103), .ref (h 104), .ref (h 105), .ref (h 106), .ref (h 107), .ref (h 108), .ref (h 109)])), (h 109, .inl (cs 5, 4, .inr (.inr (.inr (.inr (fun i => if i < 4 then some (h (i + 110)) else none)))))), (h 110, .inr (5, [.int (I 220), .int (I 224), .ref (h 228)])), (h 228, .inl (cs 1, 25, .inr (.inl (Q 228)))), (h 111, .inr (5, [.int (I 221), .int (I 225), .ref (h 229)])), (h 229, .inl (cs 1, 25, .inr (.inl (Q 229)))), (h 112, .inr (5, [.int (I 222), .int (I 226), .ref (h 230)])), (h 230, .inl (cs 1, 25, .inr (.inl (Q 230))))]) hP hD hS hA [8, 9] [0, 1, 2, 3, 4, 5, 6, 7] rfl rfl (by decide +kernel) (by decide +kernel) (va_runV (As := []) (rest := []) ⟨hx, hb, hml, hown, hts⟩ (k_X5_holds l dC dI (fun k => h (k + 3)) cs H.size (fun k => I (k + 3)) L A (fun k => Q (k + 3)) G J ) (cwV 0 hts gX9_refusal_X5_holds rfl rfl rfl (by decide +kernel) ⟨Nat.le_of_ble_eq_true rfl, Nat.le_of_ble_eq_true rfl⟩) (xpV (wc := (wSheet (fun k => h (k + 3)) cs (fun k => I (k + 3)) L A (fun k => Q (k + 3)) G J)) hP hD hK hN [8, 9] rfl (by decide) 8 (ci := 5) rfl rfl _) rfl rfl hl.1 rfl (lv_room (Nat.le_of_ble_eq_true rfl)) dX9_refusal_22 ⟨Nat.zero_le _, Nat.zero_le _⟩) (fun r_54 u_53 H locs hw hP hD hS => ?_)
        obtain ⟨hf_55, rfl⟩ := hw
        have hP : va_P (dC, dI) vwCl (wFS h cs I L A Q G J) H := hP
        have hD : va_D A0 (wFS h cs I L A Q G J) := hD
        rcases (show (r_54 = nI 1 ∧ ¬ I 223 = -1) ∨ (r_54 = nI 0 ∧ I 223 = -1) from hf_55) with ⟨rfl, hho_56⟩ | ⟨rfl, hho_56⟩
        · skip
          refine lv_if_ne (tgt := 31) hx hb dX9_refusal_25 (by decide) (fun _ => ?_) (fun c9 => False.elim (by revert c9; decide +kernel))
          refine lv_aload_n hx hb dX9_refusal_31 rfl (lv_at hl 0 rfl) ?_
          refine va_get (D := (dC, dI)) (ci := 9) (v := .ref (h 109)) (C := RX9) (T := TX9) (N := 9) hx hb hts hinX9 hown hK hP 0 rfl rfl 8 (by decide) (hts (.fieldLink RX9 71 "MixedWords" "sheets" "[LMixedWords$Sheet;") (by decide +kernel)) (fun _ h9 => h9) rfl dX9_refusal_32 ?_
          refine lv_iload_n hx hb dX9_refusal_35 rfl (lv_at hl 1 rfl) ?_
          refine xa_aald (b := h 113) hx hb hK hP 1 5 rfl rfl rfl (by omega) (by decide) (if_pos (by omega)) dX9_refusal_36 ?_
          refine va_get (D := (dC, dI)) (ci := 5) (v := .int (I 223)) (C := RX5) (T := TX5) (N := 3) hx hb hts hinX5 hown hK hP 8 rfl rfl 0 (by decide) (hts (.fieldLink RX9 300 "MixedWords$Sheet" "lane" "I") (by decide +kernel)) (fun _ h9 => h9) rfl dX9_refusal_37 ?_
          refine lv_iload_n hx hb dX9_refusal_40 rfl (lv_at hl 2 rfl) ?_
          refine lv_icmp_eq (tgt := 47) hx hb dX9_refusal_41 (by decide) (fun c_41_56 => ?_) (fun c_41_56 => ?_)
          · skip
            refine lv_iload_n hx hb dX9_refusal_47 rfl (lv_at hl 3 rfl) ?_
            refine lv_if_lt (tgt := 67) hx hb dX9_refusal_48 (by decide) (fun c_48_57 => ?_) (fun c_48_57 => ?_)
            · skip
              refine lv_bipush (v := (-13)) hx hb dX9_refusal_67 (by decide) ?_
              refine lv_goto (tgt := 73) hx hb dX9_refusal_69 (by decide) ?_
              exact xr_i (v := (-13)) hx hb hr hlocks hK hS dX9_refusal_73 (I, L, A, Q, G, J) ⟨(Or.inr ⟨3, i_49, by omega, hi_50, hxs9, hx_51, Or.inr (Or.inr ⟨hho_56, by assumption, Or.inl ⟨rfl, by first | exact ix_no1 (ln := 0) (by assumption) | exact ix_no2 hln9 hc25 hle9 (by assumption)⟩⟩)⟩), rfl⟩ hP hD
            · skip
              refine lv_iload_n hx hb dX9_refusal_51 rfl (lv_at hl 3 rfl) ?_
              refine lv_aload_n hx hb dX9_refusal_52 rfl (lv_at hl 0 rfl) ?_
              refine va_get (D := (dC, dI)) (ci := 9) (v := .ref (h 109)) (C := RX9) (T := TX9) (N := 9) hx hb hts hinX9 hown hK hP 0 rfl rfl 8 (by decide) (hts (.fieldLink RX9 71 "MixedWords" "sheets" "[LMixedWords$Sheet;") (by decide +kernel)) (fun _ h9 => h9) rfl dX9_refusal_53 ?_
              refine lv_iload_n hx hb dX9_refusal_56 rfl (lv_at hl 1 rfl) ?_
              refine xa_aald (b := h 113) hx hb hK hP 1 5 rfl rfl rfl (by omega) (by decide) (if_pos (by omega)) dX9_refusal_57 ?_
              refine va_get (D := (dC, dI)) (ci := 5) (v := .int (I 227)) (C := RX5) (T := TX5) (N := 3) hx hb hts hinX5 hown hK hP 8 rfl rfl 1 (by decide) (hts (.fieldLink RX9 278 "MixedWords$Sheet" "length" "I") (by decide +kernel)) (fun _ h9 => h9) rfl dX9_refusal_58 ?_
              obtain ⟨ln9, hln9, hle9⟩ := hln 3 (by decide)
              have hle9 : I 227 = nI ln9 := hle9
              refine xt_i (y := nI ln9) (hle9) ?_
              refine lv_iload hx hb dX9_refusal_61 (lv_at hl 4 rfl) ?_
              refine lv_isub hx hb dX9_refusal_63 ?_
              refine lv_icmp_le (tgt := 72) hx hb dX9_refusal_64 (by decide) (fun c_64_58 => ?_) (fun c_64_58 => ?_)
              · skip
                refine lv_iconst (v := nI 0) hx hb dX9_refusal_72 (by decide) ?_
                exact xr_i (v := (nI 0)) hx hb hr hlocks hK hS dX9_refusal_73 (I, L, A, Q, G, J) ⟨(Or.inr ⟨3, i_49, by omega, hi_50, hxs9, hx_51, Or.inr (Or.inr ⟨hho_56, by assumption, Or.inr ⟨rfl, by obtain ⟨iz, hz1, hz2⟩ := ix_yes (z := z) (ln := ln9) (c9 := c9) (by assumption) hln9 hc25 (by assumption); exact ⟨iz, ln9, hln9, hz1, hle9, hz2⟩⟩⟩)⟩), rfl⟩ hP hD
              · skip
                refine lv_bipush (v := (-13)) hx hb dX9_refusal_67 (by decide) ?_
                refine lv_goto (tgt := 73) hx hb dX9_refusal_69 (by decide) ?_
                exact xr_i (v := (-13)) hx hb hr hlocks hK hS dX9_refusal_73 (I, L, A, Q, G, J) ⟨(Or.inr ⟨3, i_49, by omega, hi_50, hxs9, hx_51, Or.inr (Or.inr ⟨hho_56, by assumption, Or.inl ⟨rfl, by first | exact ix_no1 (ln := 0) (by assumption) | exact ix_no2 hln9 hc25 hle9 (by assumption)⟩⟩)⟩), rfl⟩ hP hD
          · skip
            refine lv_bipush (v := (-12)) hx hb dX9_refusal_44 (by decide) ?_
            exact xr_i (v := (-12)) hx hb hr hlocks hK hS dX9_refusal_46 (I, L, A, Q, G, J) ⟨(Or.inr ⟨3, i_49, by omega, hi_50, hxs9, hx_51, Or.inr (Or.inl ⟨hho_56, by assumption, rfl⟩)⟩), rfl⟩ hP hD
        · skip
          refine lv_if_ne (tgt := 31) hx hb dX9_refusal_25 (by decide) (fun c9 => False.elim (by revert c9; decide +kernel)) (fun _ => ?_)
          refine lv_bipush (v := (-11)) hx hb dX9_refusal_28 (by decide) ?_
          exact xr_i (v := (-11)) hx hb hr hlocks hK hS dX9_refusal_30 (I, L, A, Q, G, J) ⟨(Or.inr ⟨3, i_49, by omega, hi_50, hxs9, hx_51, Or.inl ⟨hho_56, rfl⟩⟩), rfl⟩ hP hD
      · skip
        refine lv_if_ne (tgt := 16) hx hb dX9_refusal_11 (by decide) (fun c9 => False.elim (by revert c9; decide +kernel)) (fun _ => ?_)
        refine lv_iconst (v := (-1)) hx hb dX9_refusal_14 (by decide) ?_
        exact xr_i (v := (-1)) hx hb hr hlocks hK hS dX9_refusal_15 (I, L, A, Q, G, J) ⟨(Or.inl ⟨rfl, fun s v a9 b9 c9 d9 => hn_52 v b9 d9⟩), rfl⟩ hP hD
  · skip
    refine lv_if_eq (tgt := 14) hx hb dX9_refusal_4 (by decide) (fun _ => ?_) (fun c9 => False.elim (by revert c9; decide +kernel))
    refine lv_iconst (v := (-1)) hx hb dX9_refusal_14 (by decide) ?_
    exact xr_i (v := (-1)) hx hb hr hlocks hK hS dX9_refusal_15 (I, L, A, Q, G, J) ⟨(Or.inl ⟨rfl, fun s v a9 b9 c9 d9 => hns9 s a9 c9⟩), rfl⟩ hP hD
set_option maxRecDepth 20000 in
theorem ggX9_item_X9_refusal : GoodIn wsX9_item wsX9_refusal := goodIn_r _ [6, 1, 7, 8, 9, 10, 5, 11, 12, 13, 14, 15, 16, 17, 18, 19, 20, 26, 27, 28, 29, 30, 31, 32, 33, 34, 35, 36, 37] rfl (by decide +kernel)
set_option maxRecDepth 20000 in
theorem gX9_item_X9_refusal : GoodIn wsX9_item (wsV RX9 284 RX9 yX9_refusal wsX9_refusal) := goodIn_app (goodIn_of _ (by decide +kernel)) ggX9_item_X9_refusal
set_option maxRecDepth 20000 in
theorem ggX9_item_X5_put : GoodIn wsX9_item wsX5_put := goodIn_r _ [24, 25, 20, 35, 36, 37] rfl (by decide +kernel)
set_option maxRecDepth 20000 in
theorem gX9_item_X5_put : GoodIn wsX9_item (wsV RX9 288 RX5 yX5_put wsX5_put) := goodIn_app (goodIn_of _ (by decide +kernel)) ggX9_item_X5_put
theorem bdX9_item_0 : (decode cX9_item 0 = .ok (.aload_n 0, 1)) ∧ (decode cX9_item 1 = .ok (.iload_n 1, 1)) ∧ (decode cX9_item 2 = .ok (.iload_n 2, 1)) ∧ (decode cX9_item 3 = .ok (.iload_n 3, 1)) ∧ (decode cX9_item 4 = .ok (.iconst 1, 1)) ∧ (decode cX9_item 5 = .ok (.invokevirtual 284, 3)) ∧ (decode cX9_item 8 = .ok (.istore 5, 2)) ∧ (decode cX9_item 10 = .ok (.iload 5, 2)) ∧ (decode cX9_item 12 = .ok (.ifCond .eq 6, 3)) ∧ (decode cX9_item 15 = .ok (.iload 5, 2)) ∧ (decode cX9_item 17 = .ok (.ireturn, 1)) ∧ (decode cX9_item 18 = .ok (.aload_n 0, 1)) ∧ (decode cX9_item 19 = .ok (.getfield 71, 3)) ∧ (decode cX9_item 22 = .ok (.iload_n 1, 1)) ∧ (decode cX9_item 23 = .ok (.aaload, 1)) ∧ (decode cX9_item 24 = .ok (.iload_n 3, 1)) := by decide +kernel
theorem dX9_item_0 : decode cX9_item 0 = .ok (.aload_n 0, 1) := bdX9_item_0.1
theorem dX9_item_1 : decode cX9_item 1 = .ok (.iload_n 1, 1) := bdX9_item_0.2.1
theorem dX9_item_2 : decode cX9_item 2 = .ok (.iload_n 2, 1) := bdX9_item_0.2.2.1
theorem dX9_item_3 : decode cX9_item 3 = .ok (.iload_n 3, 1) := bdX9_item_0.2.2.2.1
theorem dX9_item_4 : decode cX9_item 4 = .ok (.iconst 1, 1) := bdX9_item_0.2.2.2.2.1
theorem dX9_item_5 : decode cX9_item 5 = .ok (.invokevirtual 284, 3) := bdX9_item_0.2.2.2.2.2.1
theorem dX9_item_8 : decode cX9_item 8 = .ok (.istore 5, 2) := bdX9_item_0.2.2.2.2.2.2.1
theorem dX9_item_10 : decode cX9_item 10 = .ok (.iload 5, 2) := bdX9_item_0.2.2.2.2.2.2.2.1
theorem dX9_item_12 : decode cX9_item 12 = .ok (.ifCond .eq 6, 3) := bdX9_item_0.2.2.2.2.2.2.2.2.1
theorem dX9_item_15 : decode cX9_item 15 = .ok (.iload 5, 2) := bdX9_item_0.2.2.2.2.2.2.2.2.2.1
theorem dX9_item_17 : decode cX9_item 17 = .ok (.ireturn, 1) := bdX9_item_0.2.2.2.2.2.2.2.2.2.2.1
theorem dX9_item_18 : decode cX9_item 18 = .ok (.aload_n 0, 1) := bdX9_item_0.2.2.2.2.2.2.2.2.2.2.2.1
theorem dX9_item_19 : decode cX9_item 19 = .ok (.getfield 71, 3) := bdX9_item_0.2.2.2.2.2.2.2.2.2.2.2.2.1
theorem dX9_item_22 : decode cX9_item 22 = .ok (.iload_n 1, 1) := bdX9_item_0.2.2.2.2.2.2.2.2.2.2.2.2.2.1
theorem dX9_item_23 : decode cX9_item 23 = .ok (.aaload, 1) := bdX9_item_0.2.2.2.2.2.2.2.2.2.2.2.2.2.2.1
theorem dX9_item_24 : decode cX9_item 24 = .ok (.iload_n 3, 1) := bdX9_item_0.2.2.2.2.2.2.2.2.2.2.2.2.2.2.2
theorem bdX9_item_25 : (decode cX9_item 25 = .ok (.iload 4, 2)) ∧ (decode cX9_item 27 = .ok (.invokevirtual 288, 3)) ∧ (decode cX9_item 30 = .ok (.iconst 1, 1)) ∧ (decode cX9_item 31 = .ok (.ireturn, 1)) := by decide +kernel
theorem dX9_item_25 : decode cX9_item 25 = .ok (.iload 4, 2) := bdX9_item_25.1
theorem dX9_item_27 : decode cX9_item 27 = .ok (.invokevirtual 288, 3) := bdX9_item_25.2.1
theorem dX9_item_30 : decode cX9_item 30 = .ok (.iconst 1, 1) := bdX9_item_25.2.2.1
theorem dX9_item_31 : decode cX9_item 31 = .ok (.ireturn, 1) := bdX9_item_25.2.2.2
set_option maxHeartbeats 4000000 in
set_option maxRecDepth 100000 in
theorem k_X9_item (l : Launch) (dC : Nat → ClassId) (dI : Nat → Nat → Nat) (h : Nat → Nat) (cs : Nat → ClassId) (sz : Nat) (I : Nat → Int32) (L : Nat → Int64) (A : Nat → Nat → Int32) (Q : Nat → Nat → Int64) (G : Nat → Nat → Nat → Int32) (J : Nat → Nat → Nat → Int64) (x y z v : Int32) (hln : ∀ k : Nat, k < 4 → ∃ ln : Nat, ln ≤ 25 ∧ I (224 + k) = nI ln) : Met l yX9_item wsX9_item ({ frames := 2, cells := 0, slots := 0, locals := 44 }) (va_Pc [.ref (h 100), .int x, .int y, .int z, .int v] (xPre (dC, dI) (wFS h cs I L A Q G J) (tysA cs) sz)) (va_Qi (fun (r : Int32) (u : CS) => ∃ q228 : Nat → Int64, ∃ q229 : Nat → Int64, ∃ q230 : Nat → Int64, ∃ q231 : Nat → Int64, ((r = nI 1 ∧ ∃ s w i ln : Nat, s < 4 ∧ w < 3 ∧ ln ≤ 25 ∧ x = nI s ∧ y = nI w ∧ z = nI i ∧ ¬ I (220 + s) = -1 ∧ I (220 + s) = nI w ∧ I (224 + s) = nI ln ∧ i + 1 ≤ ln ∧ q228 = (if s = 0 then vp_updL (Q 228) i (if I 220 = 0 then v.toInt8.toInt32.toInt64 else v.toInt64) else Q 228) ∧ q229 = (if s = 1 then vp_updL (Q 229) i (if I 221 = 0 then v.toInt8.toInt32.toInt64 else v.toInt64) else Q 229) ∧ q230 = (if s = 2 then vp_updL (Q 230) i (if I 222 = 0 then v.toInt8.toInt32.toInt64 else v.toInt64) else Q 230) ∧ q231 = (if s = 3 then vp_updL (Q 231) i (if I 223 = 0 then v.toInt8.toInt32.toInt64 else v.toInt64) else Q 231)) ∨ (¬ r = nI 0 ∧ rfP I x y z 1 r ∧ q228 = Q 228 ∧ q229 = Q 229 ∧ q230 = Q 230 ∧ q231 = Q 231)) ∧ u = (I, L, A, (va_up (va_up (va_up (va_up Q 228 q228) 229 q229) 230 q230) 231 q231), G, J)) (xB (dC, dI) (tysA cs) (va_A (wFS h cs I L A Q G J) sz) (fun u : CS => wFS h cs u.1 u.2.1 u.2.2.1 u.2.2.2.1 u.2.2.2.2.1 u.2.2.2.2.2)) (va_A (wFS h cs I L A Q G J) sz)) 0 0 (va_A (wFS h cs I L A Q G J) sz) := by
  refine Met.ofW (cc := cX9_item) (maxL := 6) (ret := (some .int)) (by decide) rfl ?_
  intro p e s m args below meth c s₁ B hml hv
  obtain ⟨rfl, hsz, hP, hK, hD0, hN⟩ := hv
  have hx := B.exec
  have hb := B.bytes
  have hr := B.returns
  have hts := atoms_spec (ws := wsX9_item) B.pre
  have hown : s.vm.findClass RX9 = some m.cls := findClass_of_methodNamed B.named
  have hlocks := B.notSynchronized
  subst hsz
  have hD := hD0.self (sz := s.heap.size)
  generalize hAe : va_A (wFS h cs I L A Q G J) s.heap.size = A0 at hD ⊢
  have hA : ∀ q : Nat, s.heap.size ≤ q → A0 q := fun q h => by rw [← hAe]; exact Or.inr h
  have hl := lv_entry ([.ref (h 100), .int x, .int y, .int z, .int v]) (n := 6) (Nat.le_of_ble_eq_true rfl)
  rw [lg_entry_eq]
  generalize (lg_sl ([.ref (h 100), .int x, .int y, .int z, .int v]) ++ List.replicate (6 - (lg_sl ([.ref (h 100), .int x, .int y, .int z, .int v])).length) Slot.unset).toArray = ls at hl ⊢
  have hl : lv_has ls 6 [(0, .ref (h 100)), (1, .int x), (2, .int y), (3, .int z), (4, .int v)] := hl
  generalize hH : s.heap = H at hP ⊢
  have hS : va_S A0 s.heap H [] := by rw [← hH]; exact va_S.rf
  have hinX9 : ∀ w ∈ wsX90, w ∈ wsX9_item := by decide +kernel
  refine lv_aload_n hx hb dX9_item_0 rfl (lv_at hl 0 rfl) ?_
  refine lv_iload_n hx hb dX9_item_1 rfl (lv_at hl 1 rfl) ?_
  refine lv_iload_n hx hb dX9_item_2 rfl (lv_at hl 2 rfl) ?_
  refine lv_iload_n hx hb dX9_item_3 rfl (lv_at hl 3 rfl) ?_
  refine lv_iconst (v := nI 1) hx hb dX9_item_4 (by decide) ?_
  refine xj_i (wc := (wFS h cs I L A Q G J)) (wr := ([] : va_W)) hP hD hS hA [0, 1, 2, 3, 4, 5, 6, 7, 8, 9] [] rfl rfl (by decide +kernel) (by decide +kernel) (va_runV (As := [.int x, .int y, .int z, .int (nI 1)]) (rest := []) ⟨hx, hb, hml, hown, hts⟩ (k_X9_refusal l dC dI h cs H.size I L A Q G J x y z 1 (by first | assumption | omega) (by first | assumption | omega | exact hln)) (cwV 4 hts gX9_item_X9_refusal rfl rfl rfl (by decide +kernel) ⟨Nat.le_of_ble_eq_true rfl, Nat.le_of_ble_eq_true rfl⟩) (xpV (wc := (wFS h cs I L A Q G J)) hP hD hK hN [0, 1, 2, 3, 4, 5, 6, 7, 8, 9] rfl (by decide) 0 (ci := 9) rfl rfl _) rfl rfl hl.1 rfl (lv_room (Nat.le_of_ble_eq_true rfl)) dX9_item_5 ⟨Nat.zero_le _, Nat.zero_le _⟩) (fun r_2 u_1 H locs hw hP hD hS => ?_)
  obtain ⟨hf_3, rfl⟩ := hw
  have hP : va_P (dC, dI) vwCl (wFS h cs I L A Q G J) H := hP
  have hD : va_D A0 (wFS h cs I L A Q G J) := hD
  have hrf := hf_3
  rcases hf_3 with ⟨rfl, -⟩ | ⟨s9, v9, hs9, hv9, hxs9, hyv9, ⟨-, rfl⟩ | ⟨-, -, rfl⟩ | ⟨hr1, hr2, ⟨rfl, -⟩ | ⟨rfl, i9, ln9, hln9, hzi9, hle9, hil9⟩⟩⟩
  · skip
    refine lv_istore (lv' := [(5, .int (-1 : Int32)), (0, .ref (h 100)), (1, .int x), (2, .int y), (3, .int z), (4, .int v)]) hx hb dX9_item_8 hl (by decide) rfl (fun ls hl => ?_)
    refine lv_iload hx hb dX9_item_10 (lv_at hl 0 rfl) ?_
    refine lv_if_eq (tgt := 18) hx hb dX9_item_12 (by decide) (fun c9 => False.elim (by revert c9; decide +kernel)) (fun _ => ?_)
    refine lv_iload hx hb dX9_item_15 (lv_at hl 0 rfl) ?_
    exact xr_i (v := (-1 : Int32)) hx hb hr hlocks hK hS dX9_item_17 (I, L, A, (va_up (va_up (va_up (va_up Q 228 (Q 228)) 229 (Q 229)) 230 (Q 230)) 231 (Q 231)), G, J) ⟨(Q 228), (Q 229), (Q 230), (Q 231), (Or.inr ⟨by decide, hrf, rfl, rfl, rfl, rfl⟩), rfl⟩ hP hD
  · skip
    refine lv_istore (lv' := [(5, .int (-11 : Int32)), (0, .ref (h 100)), (1, .int x), (2, .int y), (3, .int z), (4, .int v)]) hx hb dX9_item_8 hl (by decide) rfl (fun ls hl => ?_)
    refine lv_iload hx hb dX9_item_10 (lv_at hl 0 rfl) ?_
    refine lv_if_eq (tgt := 18) hx hb dX9_item_12 (by decide) (fun c9 => False.elim (by revert c9; decide +kernel)) (fun _ => ?_)
    refine lv_iload hx hb dX9_item_15 (lv_at hl 0 rfl) ?_
    exact xr_i (v := (-11 : Int32)) hx hb hr hlocks hK hS dX9_item_17 (I, L, A, (va_up (va_up (va_up (va_up Q 228 (Q 228)) 229 (Q 229)) 230 (Q 230)) 231 (Q 231)), G, J) ⟨(Q 228), (Q 229), (Q 230), (Q 231), (Or.inr ⟨by decide, hrf, rfl, rfl, rfl, rfl⟩), rfl⟩ hP hD
  · skip
    refine lv_istore (lv' := [(5, .int (-12 : Int32)), (0, .ref (h 100)), (1, .int x), (2, .int y), (3, .int z), (4, .int v)]) hx hb dX9_item_8 hl (by decide) rfl (fun ls hl => ?_)
    refine lv_iload hx hb dX9_item_10 (lv_at hl 0 rfl) ?_
    refine lv_if_eq (tgt := 18) hx hb dX9_item_12 (by decide) (fun c9 => False.elim (by revert c9; decide +kernel)) (fun _ => ?_)
    refine lv_iload hx hb dX9_item_15 (lv_at hl 0 rfl) ?_
    exact xr_i (v := (-12 : Int32)) hx hb hr hlocks hK hS dX9_item_17 (I, L, A, (va_up (va_up (va_up (va_up Q 228 (Q 228)) 229 (Q 229)) 230 (Q 230)) 231 (Q 231)), G, J) ⟨(Q 228), (Q 229), (Q 230), (Q 231), (Or.inr ⟨by decide, hrf, rfl, rfl, rfl, rfl⟩), rfl⟩ hP hD
  · skip
    refine lv_istore (lv' := [(5, .int (-13 : Int32)), (0, .ref (h 100)), (1, .int x), (2, .int y), (3, .int z), (4, .int v)]) hx hb dX9_item_8 hl (by decide) rfl (fun ls hl => ?_)
    refine lv_iload hx hb dX9_item_10 (lv_at hl 0 rfl) ?_
    refine lv_if_eq (tgt := 18) hx hb dX9_item_12 (by decide) (fun c9 => False.elim (by revert c9; decide +kernel)) (fun _ => ?_)
    refine lv_iload hx hb dX9_item_15 (lv_at hl 0 rfl) ?_
    exact xr_i (v := (-13 : Int32)) hx hb hr hlocks hK hS dX9_item_17 (I, L, A, (va_up (va_up (va_up (va_up Q 228 (Q 228)) 229 (Q 229)) 230 (Q 230)) 231 (Q 231)), G, J) ⟨(Q 228), (Q 229), (Q 230), (Q 231), (Or.inr ⟨by decide, hrf, rfl, rfl, rfl, rfl⟩), rfl⟩ hP hD
  · skip
    rcases (show s9 = 0 ∨ s9 = 1 ∨ s9 = 2 ∨ s9 = 3 by omega) with rfl | rfl | rfl | rfl
    · skip
      rw [hxs9, hzi9] at hl
      refine lv_istore (lv' := [(5, .int (nI 0)), (0, .ref (h 100)), (1, .int (nI 0)), (2, .int y), (3, .int (nI i9)), (4, .int v)]) hx hb dX9_item_8 hl (by decide) rfl (fun ls hl => ?_)
      refine lv_iload hx hb dX9_item_10 (lv_at hl 0 rfl) ?_
      refine lv_if_eq (tgt := 18) hx hb dX9_item_12 (by decide) (fun _ => ?_) (fun c9 => False.elim (by revert c9; decide +kernel))
      refine lv_aload_n hx hb dX9_item_18 rfl (lv_at hl 1 rfl) ?_
      refine va_get (D := (dC, dI)) (ci := 9) (v := .ref (h 109)) (C := RX9) (T := TX9) (N := 9) hx hb hts hinX9 hown hK hP 0 rfl rfl 8 (by decide) (hts (.fieldLink RX9 71 "MixedWords" "sheets" "[LMixedWords$Sheet;") (by decide +kernel)) (fun _ h9 => h9) rfl dX9_item_19 ?_
      refine lv_iload_n hx hb dX9_item_22 rfl (lv_at hl 2 rfl) ?_
      refine xa_aald (b := h 110) hx hb hK hP 1 5 rfl rfl rfl (by omega) (by decide) (if_pos (by omega)) dX9_item_23 ?_
      refine lv_iload_n hx hb dX9_item_24 rfl (lv_at hl 4 rfl) ?_
      refine lv_iload hx hb dX9_item_25 (lv_at hl 5 rfl) ?_
      refine xj_v (wc := (wSheet (fun k => h (k + 0)) cs (fun k => I (k + 0)) L A (fun k => Q (k + 0)) G J)) (wr := [(h 100, .inr (9, [.ref (h 101), .ref (h 102), .ref (h 103), .ref (h 104), .ref (h 105), .ref (h 106), .ref (h 107), .ref (h 108), .ref (h 109)])), (h 109, .inl (cs 5, 4, .inr (.inr (.inr (.inr (fun i => if i < 4 then some (h (i + 110)) else none)))))), (h 111, .inr (5, [.int (I 221), .int (I 225), .ref (h 229)])), (h 229, .inl (cs 1, 25, .inr (.inl (Q 229)))), (h 112, .inr (5, [.int (I 222), .int (I 226), .ref (h 230)])), (h 230, .inl (cs 1, 25, .inr (.inl (Q 230)))), (h 113, .inr (5, [.int (I 223), .int (I 227), .ref (h 231)])), (h 231, .inl (cs 1, 25, .inr (.inl (Q 231))))]) hP hD hS hA [2, 3] [0, 1, 4, 5, 6, 7, 8, 9] rfl rfl (by decide +kernel) (by decide +kernel) (va_runV (As := [.int (nI i9), .int v]) (rest := []) ⟨hx, hb, hml, hown, hts⟩ (k_X5_put l dC dI (fun k => h (k + 0)) cs H.size (fun k => I (k + 0)) L A (fun k => Q (k + 0)) G J i9 v (by first | assumption | omega)) (cwV 2 hts gX9_item_X5_put rfl rfl rfl (by decide +kernel) ⟨Nat.le_of_ble_eq_true rfl, Nat.le_of_ble_eq_true rfl⟩) (xpV (wc := (wSheet (fun k => h (k + 0)) cs (fun k => I (k + 0)) L A (fun k => Q (k + 0)) G J)) hP hD hK hN [2, 3] rfl (by decide) 2 (ci := 5) rfl rfl _) rfl rfl hl.1 rfl (lv_room (Nat.le_of_ble_eq_true rfl)) dX9_item_27 ⟨Nat.zero_le _, Nat.zero_le _⟩) (fun u_4 H locs hw hP hD hS => ?_)
      obtain ⟨q228_6, hf_7, rfl⟩ := hw
      have hP : va_P (dC, dI) vwCl (wFS h cs I L A (va_up Q 228 q228_6) G J) H := xP_sub hP [0, 1, 8, 9, 2, 3, 4, 5, 6, 7] rfl
      have hD : va_D A0 (wFS h cs I L A (va_up Q 228 q228_6) G J) := hD.sub [0, 1, 8, 9, 2, 3, 4, 5, 6, 7] (by decide +kernel) rfl
      obtain rfl := hf_7
      refine lv_iconst (v := nI 1) hx hb dX9_item_30 (by decide) ?_
      exact xr_i (v := (nI 1)) hx hb hr hlocks hK hS dX9_item_31 (I, L, A, (va_up (va_up (va_up (va_up Q 228 (vp_updL (Q 228) i9 (if I 220 = 0 then v.toInt8.toInt32.toInt64 else v.toInt64))) 229 (Q 229)) 230 (Q 230)) 231 (Q 231)), G, J) ⟨(vp_updL (Q 228) i9 (if I 220 = 0 then v.toInt8.toInt32.toInt64 else v.toInt64)), (Q 229), (Q 230), (Q 231), (Or.inl ⟨rfl, 0, v9, i9, ln9, by omega, hv9, hln9, hxs9, hyv9, hzi9, hr1, hr2, hle9, hil9, rfl, rfl, rfl, rfl⟩), rfl⟩ hP hD
    · skip
      rw [hxs9, hzi9] at hl
      refine lv_istore (lv' := [(5, .int (nI 0)), (0, .ref (h 100)), (1, .int (nI 1)), (2, .int y), (3, .int (nI i9)), (4, .int v)]) hx hb dX9_item_8 hl (by decide) rfl (fun ls hl => ?_)
      refine lv_iload hx hb dX9_item_10 (lv_at hl 0 rfl) ?_
      refine lv_if_eq (tgt := 18) hx hb dX9_item_12 (by decide) (fun _ => ?_) (fun c9 => False.elim (by revert c9; decide +kernel))
      refine lv_aload_n hx hb dX9_item_18 rfl (lv_at hl 1 rfl) ?_
      refine va_get (D := (dC, dI)) (ci := 9) (v := .ref (h 109)) (C := RX9) (T := TX9) (N := 9) hx hb hts hinX9 hown hK hP 0 rfl rfl 8 (by decide) (hts (.fieldLink RX9 71 "MixedWords" "sheets" "[LMixedWords$Sheet;") (by decide +kernel)) (fun _ h9 => h9) rfl dX9_item_19 ?_
      refine lv_iload_n hx hb dX9_item_22 rfl (lv_at hl 2 rfl) ?_
      refine xa_aald (b := h 111) hx hb hK hP 1 5 rfl rfl rfl (by omega) (by decide) (if_pos (by omega)) dX9_item_23 ?_
      refine lv_iload_n hx hb dX9_item_24 rfl (lv_at hl 4 rfl) ?_
      refine lv_iload hx hb dX9_item_25 (lv_at hl 5 rfl) ?_
      refine xj_v (wc := (wSheet (fun k => h (k + 1)) cs (fun k => I (k + 1)) L A (fun k => Q (k + 1)) G J)) (wr := [(h 100, .inr (9, [.ref (h 101), .ref (h 102), .ref (h 103), .ref (h 104), .ref (h 105), .ref (h 106), .ref (h 107), .ref (h 108), .ref (h 109)])), (h 109, .inl (cs 5, 4, .inr (.inr (.inr (.inr (fun i => if i < 4 then some (h (i + 110)) else none)))))), (h 110, .inr (5, [.int (I 220), .int (I 224), .ref (h 228)])), (h 228, .inl (cs 1, 25, .inr (.inl (Q 228)))), (h 112, .inr (5, [.int (I 222), .int (I 226), .ref (h 230)])), (h 230, .inl (cs 1, 25, .inr (.inl (Q 230)))), (h 113, .inr (5, [.int (I 223), .int (I 227), .ref (h 231)])), (h 231, .inl (cs 1, 25, .inr (.inl (Q 231))))]) hP hD hS hA [4, 5] [0, 1, 2, 3, 6, 7, 8, 9] rfl rfl (by decide +kernel) (by decide +kernel) (va_runV (As := [.int (nI i9), .int v]) (rest := []) ⟨hx, hb, hml, hown, hts⟩ (k_X5_put l dC dI (fun k => h (k + 1)) cs H.size (fun k => I (k + 1)) L A (fun k => Q (k + 1)) G J i9 v (by first | assumption | omega)) (cwV 2 hts gX9_item_X5_put rfl rfl rfl (by decide +kernel) ⟨Nat.le_of_ble_eq_true rfl, Nat.le_of_ble_eq_true rfl⟩) (xpV (wc := (wSheet (fun k => h (k + 1)) cs (fun k => I (k + 1)) L A (fun k => Q (k + 1)) G J)) hP hD hK hN [4, 5] rfl (by decide) 4 (ci := 5) rfl rfl _) rfl rfl hl.1 rfl (lv_room (Nat.le_of_ble_eq_true rfl)) dX9_item_27 ⟨Nat.zero_le _, Nat.zero_le _⟩) (fun u_8 H locs hw hP hD hS => ?_)
      obtain ⟨q228_10, hf_11, rfl⟩ := hw
      have hP : va_P (dC, dI) vwCl (wFS h cs I L A (va_up Q 229 q228_10) G J) H := xP_sub hP [0, 1, 2, 3, 8, 9, 4, 5, 6, 7] rfl
      have hD : va_D A0 (wFS h cs I L A (va_up Q 229 q228_10) G J) := hD.sub [0, 1, 2, 3, 8, 9, 4, 5, 6, 7] (by decide +kernel) rfl
      obtain rfl := hf_11
      refine lv_iconst (v := nI 1) hx hb dX9_item_30 (by decide) ?_
      exact xr_i (v := (nI 1)) hx hb hr hlocks hK hS dX9_item_31 (I, L, A, (va_up (va_up (va_up (va_up Q 228 (Q 228)) 229 (vp_updL (Q 229) i9 (if I 221 = 0 then v.toInt8.toInt32.toInt64 else v.toInt64))) 230 (Q 230)) 231 (Q 231)), G, J) ⟨(Q 228), (vp_updL (Q 229) i9 (if I 221 = 0 then v.toInt8.toInt32.toInt64 else v.toInt64)), (Q 230), (Q 231), (Or.inl ⟨rfl, 1, v9, i9, ln9, by omega, hv9, hln9, hxs9, hyv9, hzi9, hr1, hr2, hle9, hil9, rfl, rfl, rfl, rfl⟩), rfl⟩ hP hD
    · skip
      rw [hxs9, hzi9] at hl
      refine lv_istore (lv' := [(5, .int (nI 0)), (0, .ref (h 100)), (1, .int (nI 2)), (2, .int y), (3, .int (nI i9)), (4, .int v)]) hx hb dX9_item_8 hl (by decide) rfl (fun ls hl => ?_)
      refine lv_iload hx hb dX9_item_10 (lv_at hl 0 rfl) ?_
      refine lv_if_eq (tgt := 18) hx hb dX9_item_12 (by decide) (fun _ => ?_) (fun c9 => False.elim (by revert c9; decide +kernel))
      refine lv_aload_n hx hb dX9_item_18 rfl (lv_at hl 1 rfl) ?_
      refine va_get (D := (dC, dI)) (ci := 9) (v := .ref (h 109)) (C := RX9) (T := TX9) (N := 9) hx hb hts hinX9 hown hK hP 0 rfl rfl 8 (by decide) (hts (.fieldLink RX9 71 "MixedWords" "sheets" "[LMixedWords$Sheet;") (by decide +kernel)) (fun _ h9 => h9) rfl dX9_item_19 ?_
      refine lv_iload_n hx hb dX9_item_22 rfl (lv_at hl 2 rfl) ?_
      refine xa_aald (b := h 112) hx hb hK hP 1 5 rfl rfl rfl (by omega) (by decide) (if_pos (by omega)) dX9_item_23 ?_
      refine lv_iload_n hx hb dX9_item_24 rfl (lv_at hl 4 rfl) ?_
      refine lv_iload hx hb dX9_item_25 (lv_at hl 5 rfl) ?_
      refine xj_v (wc := (wSheet (fun k => h (k + 2)) cs (fun k => I (k + 2)) L A (fun k => Q (k + 2)) G J)) (wr := [(h 100, .inr (9, [.ref (h 101), .ref (h 102), .ref (h 103), .ref (h 104), .ref (h 105), .ref (h 106), .ref (h 107), .ref (h 108), .ref (h 109)])), (h 109, .inl (cs 5, 4, .inr (.inr (.inr (.inr (fun i => if i < 4 then some (h (i + 110)) else none)))))), (h 110, .inr (5, [.int (I 220), .int (I 224), .ref (h 228)])), (h 228, .inl (cs 1, 25, .inr (.inl (Q 228)))), (h 111, .inr (5, [.int (I 221), .int (I 225), .ref (h 229)])), (h 229, .inl (cs 1, 25, .inr (.inl (Q 229)))), (h 113, .inr (5, [.int (I 223), .int (I 227), .ref (h 231)])), (h 231, .inl (cs 1, 25, .inr (.inl (Q 231))))]) hP hD hS hA [6, 7] [0, 1, 2, 3, 4, 5, 8, 9] rfl rfl (by decide +kernel) (by decide +kernel) (va_runV (As := [.int (nI i9), .int v]) (rest := []) ⟨hx, hb, hml, hown, hts⟩ (k_X5_put l dC dI (fun k => h (k + 2)) cs H.size (fun k => I (k + 2)) L A (fun k => Q (k + 2)) G J i9 v (by first | assumption | omega)) (cwV 2 hts gX9_item_X5_put rfl rfl rfl (by decide +kernel) ⟨Nat.le_of_ble_eq_true rfl, Nat.le_of_ble_eq_true rfl⟩) (xpV (wc := (wSheet (fun k => h (k + 2)) cs (fun k => I (k + 2)) L A (fun k => Q (k + 2)) G J)) hP hD hK hN [6, 7] rfl (by decide) 6 (ci := 5) rfl rfl _) rfl rfl hl.1 rfl (lv_room (Nat.le_of_ble_eq_true rfl)) dX9_item_27 ⟨Nat.zero_le _, Nat.zero_le _⟩) (fun u_12 H locs hw hP hD hS => ?_)
      obtain ⟨q228_14, hf_15, rfl⟩ := hw
      have hP : va_P (dC, dI) vwCl (wFS h cs I L A (va_up Q 230 q228_14) G J) H := xP_sub hP [0, 1, 2, 3, 4, 5, 8, 9, 6, 7] rfl
      have hD : va_D A0 (wFS h cs I L A (va_up Q 230 q228_14) G J) := hD.sub [0, 1, 2, 3, 4, 5, 8, 9, 6, 7] (by decide +kernel) rfl
      obtain rfl := hf_15
      refine lv_iconst (v := nI 1) hx hb dX9_item_30 (by decide) ?_
      exact xr_i (v := (nI 1)) hx hb hr hlocks hK hS dX9_item_31 (I, L, A, (va_up (va_up (va_up (va_up Q 228 (Q 228)) 229 (Q 229)) 230 (vp_updL (Q 230) i9 (if I 222 = 0 then v.toInt8.toInt32.toInt64 else v.toInt64))) 231 (Q 231)), G, J) ⟨(Q 228), (Q 229), (vp_updL (Q 230) i9 (if I 222 = 0 then v.toInt8.toInt32.toInt64 else v.toInt64)), (Q 231), (Or.inl ⟨rfl, 2, v9, i9, ln9, by omega, hv9, hln9, hxs9, hyv9, hzi9, hr1, hr2, hle9, hil9, rfl, rfl, rfl, rfl⟩), rfl⟩ hP hD
    · skip
      rw [hxs9, hzi9] at hl
      refine lv_istore (lv' := [(5, .int (nI 0)), (0, .ref (h 100)), (1, .int (nI 3)), (2, .int y), (3, .int (nI i9)), (4, .int v)]) hx hb dX9_item_8 hl (by decide) rfl (fun ls hl => ?_)
      refine lv_iload hx hb dX9_item_10 (lv_at hl 0 rfl) ?_
      refine lv_if_eq (tgt := 18) hx hb dX9_item_12 (by decide) (fun _ => ?_) (fun c9 => False.elim (by revert c9; decide +kernel))
      refine lv_aload_n hx hb dX9_item_18 rfl (lv_at hl 1 rfl) ?_
      refine va_get (D := (dC, dI)) (ci := 9) (v := .ref (h 109)) (C := RX9) (T := TX9) (N := 9) hx hb hts hinX9 hown hK hP 0 rfl rfl 8 (by decide) (hts (.fieldLink RX9 71 "MixedWords" "sheets" "[LMixedWords$Sheet;") (by decide +kernel)) (fun _ h9 => h9) rfl dX9_item_19 ?_
      refine lv_iload_n hx hb dX9_item_22 rfl (lv_at hl 2 rfl) ?_
      refine xa_aald (b := h 113) hx hb hK hP 1 5 rfl rfl rfl (by omega) (by decide) (if_pos (by omega)) dX9_item_23 ?_
      refine lv_iload_n hx hb dX9_item_24 rfl (lv_at hl 4 rfl) ?_
      refine lv_iload hx hb dX9_item_25 (lv_at hl 5 rfl) ?_
      refine xj_v (wc := (wSheet (fun k => h (k + 3)) cs (fun k => I (k + 3)) L A (fun k => Q (k + 3)) G J)) (wr := [(h 100, .inr (9, [.ref (h 101), .ref (h 102), .ref (h 103), .ref (h 104), .ref (h 105), .ref (h 106), .ref (h 107), .ref (h 108), .ref (h 109)])), (h 109, .inl (cs 5, 4, .inr (.inr (.inr (.inr (fun i => if i < 4 then some (h (i + 110)) else none)))))), (h 110, .inr (5, [.int (I 220), .int (I 224), .ref (h 228)])), (h 228, .inl (cs 1, 25, .inr (.inl (Q 228)))), (h 111, .inr (5, [.int (I 221), .int (I 225), .ref (h 229)])), (h 229, .inl (cs 1, 25, .inr (.inl (Q 229)))), (h 112, .inr (5, [.int (I 222), .int (I 226), .ref (h 230)])), (h 230, .inl (cs 1, 25, .inr (.inl (Q 230))))]) hP hD hS hA [8, 9] [0, 1, 2, 3, 4, 5, 6, 7] rfl rfl (by decide +kernel) (by decide +kernel) (va_runV (As := [.int (nI i9), .int v]) (rest := []) ⟨hx, hb, hml, hown, hts⟩ (k_X5_put l dC dI (fun k => h (k + 3)) cs H.size (fun k => I (k + 3)) L A (fun k => Q (k + 3)) G J i9 v (by first | assumption | omega)) (cwV 2 hts gX9_item_X5_put rfl rfl rfl (by decide +kernel) ⟨Nat.le_of_ble_eq_true rfl, Nat.le_of_ble_eq_true rfl⟩) (xpV (wc := (wSheet (fun k => h (k + 3)) cs (fun k => I (k + 3)) L A (fun k => Q (k + 3)) G J)) hP hD hK hN [8, 9] rfl (by decide) 8 (ci := 5) rfl rfl _) rfl rfl hl.1 rfl (lv_room (Nat.le_of_ble_eq_true rfl)) dX9_item_27 ⟨Nat.zero_le _, Nat.zero_le _⟩) (fun u_16 H locs hw hP hD hS => ?_)
      obtain ⟨q228_18, hf_19, rfl⟩ := hw
      have hP : va_P (dC, dI) vwCl (wFS h cs I L A (va_up Q 231 q228_18) G J) H := hP
      have hD : va_D A0 (wFS h cs I L A (va_up Q 231 q228_18) G J) := hD
      obtain rfl := hf_19
      refine lv_iconst (v := nI 1) hx hb dX9_item_30 (by decide) ?_
      exact xr_i (v := (nI 1)) hx hb hr hlocks hK hS dX9_item_31 (I, L, A, (va_up (va_up (va_up (va_up Q 228 (Q 228)) 229 (Q 229)) 230 (Q 230)) 231 (vp_updL (Q 231) i9 (if I 223 = 0 then v.toInt8.toInt32.toInt64 else v.toInt64))), G, J) ⟨(Q 228), (Q 229), (Q 230), (vp_updL (Q 231) i9 (if I 223 = 0 then v.toInt8.toInt32.toInt64 else v.toInt64)), (Or.inl ⟨rfl, 3, v9, i9, ln9, by omega, hv9, hln9, hxs9, hyv9, hzi9, hr1, hr2, hle9, hil9, rfl, rfl, rfl, rfl⟩), rfl⟩ hP hD
set_option maxHeartbeats 4000000 in
set_option maxRecDepth 100000 in
theorem k_X9_refusalX (l : Launch) (dC : Nat → ClassId) (dI : Nat → Nat → Nat) (h : Nat → Nat) (cs : Nat → ClassId) (sz : Nat) (I : Nat → Int32) (L : Nat → Int64) (A : Nat → Nat → Int32) (Q : Nat → Nat → Int64) (G : Nat → Nat → Nat → Int32) (J : Nat → Nat → Nat → Int64) (x y z : Int32) (c9 : Nat) (hc25 : c9 ≤ 25) (hln : ∀ k : Nat, k < 4 → ∃ ln : Nat, ln ≤ 25 ∧ I (224 + k) = nI ln) : Met l yX9_refusal wsX9_refusal ({ frames := 1, cells := 0, slots := 0, locals := 20 }) (va_Pc [.ref (h 100), .int x, .int y, .int z, .int (nI c9)] (xPre (dC, dI) (wFX h cs I L A Q G J) (tysA cs) sz)) (va_Qi (fun (r : Int32) (u : CS) => (rfP I x y z c9 r) ∧ u = (I, L, A, Q, G, J)) (xB (dC, dI) (tysA cs) (va_A (wFX h cs I L A Q G J) sz) (fun u : CS => wFX h cs u.1 u.2.1 u.2.2.1 u.2.2.2.1 u.2.2.2.2.1 u.2.2.2.2.2)) (va_A (wFX h cs I L A Q G J) sz)) 0 0 (va_A (wFX h cs I L A Q G J) sz) := by
  refine Met.ofW (cc := cX9_refusal) (maxL := 5) (ret := (some .int)) (by decide) rfl ?_
  intro p e s m args below meth c s₁ B hml hv
  obtain ⟨rfl, hsz, hP, hK, hD0, hN⟩ := hv
  have hx := B.exec
  have hb := B.bytes
  have hr := B.returns
  have hts := atoms_spec (ws := wsX9_refusal) B.pre
  have hown : s.vm.findClass RX9 = some m.cls := findClass_of_methodNamed B.named
  have hlocks := B.notSynchronized
  subst hsz
  have hD := hD0.self (sz := s.heap.size)
  generalize hAe : va_A (wFX h cs I L A Q G J) s.heap.size = A0 at hD ⊢
  have hA : ∀ q : Nat, s.heap.size ≤ q → A0 q := fun q h => by rw [← hAe]; exact Or.inr h
  have hl := lv_entry ([.ref (h 100), .int x, .int y, .int z, .int (nI c9)]) (n := 5) (Nat.le_of_ble_eq_true rfl)
  rw [lg_entry_eq]
  generalize (lg_sl ([.ref (h 100), .int x, .int y, .int z, .int (nI c9)]) ++ List.replicate (5 - (lg_sl ([.ref (h 100), .int x, .int y, .int z, .int (nI c9)])).length) Slot.unset).toArray = ls at hl ⊢
  have hl : lv_has ls 5 [(0, .ref (h 100)), (1, .int x), (2, .int y), (3, .int z), (4, .int (nI c9))] := hl
  generalize hH : s.heap = H at hP ⊢
  have hS : va_S A0 s.heap H [] := by rw [← hH]; exact va_S.rf
  have hinX9 : ∀ w ∈ wsX90, w ∈ wsX9_refusal := by decide +kernel
  have hinX5 : ∀ w ∈ wsX50, w ∈ wsX9_refusal := by decide +kernel
  refine lv_iload_n hx hb dX9_refusal_0 rfl (lv_at hl 1 rfl) ?_
  refine xj_i (wc := ([] : va_W)) (wr := (wFX h cs I L A Q G J)) hP hD hS hA [] [0, 1, 2, 3, 4, 5, 6, 7, 8, 9, 10, 11, 12, 13, 14, 15, 16, 17, 18, 19, 20, 21, 22] rfl rfl (by decide +kernel) (by decide +kernel) (va_runS (As := [.int x]) (rest := []) ⟨hx, hb, hml, hown, hts⟩ (k_X9_isSheet l dC dI h cs H.size I L A Q G J x) (va_cwS 1 hts gX9_refusal_X9_isSheet rfl rfl rfl (by decide +kernel) ⟨Nat.le_of_ble_eq_true rfl, Nat.le_of_ble_eq_true rfl⟩) (xpS (wc := ([] : va_W)) hP hD hK hN [] rfl (by decide) _) rfl rfl hl.1 rfl (lv_room (Nat.le_of_ble_eq_true rfl)) dX9_refusal_1 ⟨Nat.zero_le _, Nat.zero_le _⟩) (fun r_2 u_1 H locs hw hP hD hS => ?_)
  obtain ⟨hf_3, rfl⟩ := hw
  have hP : va_P (dC, dI) vwCl (wFX h cs I L A Q G J) H := hP
  have hD : va_D A0 (wFX h cs I L A Q G J) := hD
  rcases hf_3 with ⟨rfl, is9, his9, hxs9⟩ | ⟨rfl, hns9⟩
  · skip
    rcases (show is9 = 0 ∨ is9 = 1 ∨ is9 = 2 ∨ is9 = 3 by omega) with rfl | rfl | rfl | rfl
    · skip
      rw [hxs9] at hl
      refine lv_if_eq (tgt := 14) hx hb dX9_refusal_4 (by decide) (fun c9 => False.elim (by revert c9; decide +kernel)) (fun _ => ?_)
      refine lv_iload_n hx hb dX9_refusal_7 rfl (lv_at hl 2 rfl) ?_
      refine xj_i (wc := ([] : va_W)) (wr := (wFX h cs I L A Q G J)) hP hD hS hA [] [0, 1, 2, 3, 4, 5, 6, 7, 8, 9, 10, 11, 12, 13, 14, 15, 16, 17, 18, 19, 20, 21, 22] rfl rfl (by decide +kernel) (by decide +kernel) (va_runS (As := [.int y]) (rest := []) ⟨hx, hb, hml, hown, hts⟩ (k_X9_isLane l dC dI h cs H.size I L A Q G J y) (va_cwS 1 hts gX9_refusal_X9_isLane rfl rfl rfl (by decide +kernel) ⟨Nat.le_of_ble_eq_true rfl, Nat.le_of_ble_eq_true rfl⟩) (xpS (wc := ([] : va_W)) hP hD hK hN [] rfl (by decide) _) rfl rfl hl.1 rfl (lv_room (Nat.le_of_ble_eq_true rfl)) dX9_refusal_8 ⟨Nat.zero_le _, Nat.zero_le _⟩) (fun r_5 u_4 H locs hw hP hD hS => ?_)
      obtain ⟨hf_6, rfl⟩ := hw
      have hP : va_P (dC, dI) vwCl (wFX h cs I L A Q G J) H := hP
      have hD : va_D A0 (wFX h cs I L A Q G J) := hD
      rcases hf_6 with ⟨rfl, i_7, hi_8, hx_9⟩ | ⟨rfl, hn_10⟩
      · skip
        rw [hx_9] at hl
        refine lv_if_ne (tgt := 16) hx hb dX9_refusal_11 (by decide) (fun _ => ?_) (fun c9 => False.elim (by revert c9; decide +kernel))
        refine lv_aload_n hx hb dX9_refusal_16 rfl (lv_at hl 0 rfl) ?_
        refine va_get (D := (dC, dI)) (ci := 9) (v := .ref (h 109)) (C := RX9) (T := TX9) (N := 9) hx hb hts hinX9 hown hK hP 0 rfl rfl 8 (by decide) (hts (.fieldLink RX9 71 "MixedWords" "sheets" "[LMixedWords$Sheet;") (by decide +kernel)) (fun _ h9 => h9) rfl dX9_refusal_17 ?_
        refine lv_iload_n hx hb dX9_refusal_20 rfl (lv_at hl 1 rfl) ?_
        refine xa_aald (b := h 110) hx hb hK hP 1 5 rfl rfl rfl (by omega) (by decide) (if_pos (by omega)) dX9_refusal_21 ?_
        refine xj_i (wc := (wSheet (fun k => h (k + 0)) cs (fun k => I (k + 0)) L A (fun k => Q (k + 0)) G J)) (wr := [(h 100, .inr (9, [.ref (h 101), .ref (h 102), .ref (h 103), .ref (h 104), .ref (h 105), .ref (h 106), .ref (h 107), .ref (h 108), .ref (h 109)])), (h 109, .inl (cs 5, 4, .inr (.inr (.inr (.inr (fun i => if i < 4 then some (h (i + 110)) else none)))))), (h 111, .inr (5, [.int (I 221), .int (I 225), .ref (h 229)])), (h 229, .inl (cs 1, 25, .inr (.inl (Q 229)))), (h 112, .inr (5, [.int (I 222), .int (I 226), .ref (h 230)])), (h 230, .inl (cs 1, 25, .inr (.inl (Q 230)))), (h 113, .inr (5, [.int (I 223), .int (I 227), .ref (h 231)])), (h 231, .inl (cs 1, 25, .inr (.inl (Q 231)))), (h 101, .inr (3, [.int (I 120), .int (I 121), .int (I 122), .int (I 123), .ref (h 130), .ref (h 136)])), (h 130, .inl (cs 3, 5, .inr (.inr (.inr (.inr (fun i => if i < 5 then some (h (i + 131)) else none)))))), (h 131, .inl (cs 0, 4, .inl ((G 0) 0))), (h 132, .inl (cs 0, 4, .inl ((G 0) 1))), (h 133, .inl (cs 0, 4, .inl ((G 0) 2))), (h 134, .inl (cs 0, 4, .inl ((G 0) 3))), (h 135, .inl (cs 0, 4, .inl ((G 0) 4))), (h 136, .inl (cs 0, 5, .inl (A 136))), (h 102, .inr (0, [.ref (h 101), .ref (h 140), .ref (h 141), .ref (h 142), .ref (h 143), .int (I 144), .int (I 145), .int (I 146)])), (h 140, .inl (cs 0, 40, .inl (A 140))), (h 141, .inl (cs 0, 40, .inl (A 141))), (h 142, .inl (cs 0, 40, .inl (A 142))), (h 143, .inl (cs 0, 40, .inl (A 143)))]) hP hD hS hA [2, 3] [0, 1, 4, 5, 6, 7, 8, 9, 10, 11, 12, 13, 14, 15, 16, 17, 18, 19, 20, 21, 22] rfl rfl (by decide +kernel) (by decide +kernel) (va_runV (As := []) (rest := []) ⟨hx, hb, hml, hown, hts⟩ (k_X5_holds l dC dI (fun k => h (k + 0)) cs H.size (fun k => I (k + 0)) L A (fun k => Q (k + 0)) G J ) (cwV 0 hts gX9_refusal_X5_holds rfl rfl rfl (by decide +kernel) ⟨Nat.le_of_ble_eq_true rfl, Nat.le_of_ble_eq_true rfl⟩) (xpV (wc := (wSheet (fun k => h (k + 0)) cs (fun k => I (k + 0)) L A (fun k => Q (k + 0)) G J)) hP hD hK hN [2, 3] rfl (by decide) 2 (ci := 5) rfl rfl _) rfl rfl hl.1 rfl (lv_room (Nat.le_of_ble_eq_true rfl)) dX9_refusal_22 ⟨Nat.zero_le _, Nat.zero_le _⟩) (fun r_12 u_11 H locs hw hP hD hS => ?_)
        obtain ⟨hf_13, rfl⟩ := hw
        have hP : va_P (dC, dI) vwCl (wFX h cs I L A Q G J) H := xP_sub hP [0, 1, 21, 22, 2, 3, 4, 5, 6, 7, 8, 9, 10, 11, 12, 13, 14, 15, 16, 17, 18, 19, 20] rfl
        have hD : va_D A0 (wFX h cs I L A Q G J) := hD.sub [0, 1, 21, 22, 2, 3, 4, 5, 6, 7, 8, 9, 10, 11, 12, 13, 14, 15, 16, 17, 18, 19, 20] (by decide +kernel) rfl
        rcases (show (r_12 = nI 1 ∧ ¬ I 220 = -1) ∨ (r_12 = nI 0 ∧ I 220 = -1) from hf_13) with ⟨rfl, hho_14⟩ | ⟨rfl, hho_14⟩
        · skip
          refine lv_if_ne (tgt := 31) hx hb dX9_refusal_25 (by decide) (fun _ => ?_) (fun c9 => False.elim (by revert c9; decide +kernel))
          refine lv_aload_n hx hb dX9_refusal_31 rfl (lv_at hl 0 rfl) ?_
          refine va_get (D := (dC, dI)) (ci := 9) (v := .ref (h 109)) (C := RX9) (T := TX9) (N := 9) hx hb hts hinX9 hown hK hP 0 rfl rfl 8 (by decide) (hts (.fieldLink RX9 71 "MixedWords" "sheets" "[LMixedWords$Sheet;") (by decide +kernel)) (fun _ h9 => h9) rfl dX9_refusal_32 ?_
          refine lv_iload_n hx hb dX9_refusal_35 rfl (lv_at hl 1 rfl) ?_
          refine xa_aald (b := h 110) hx hb hK hP 1 5 rfl rfl rfl (by omega) (by decide) (if_pos (by omega)) dX9_refusal_36 ?_
          refine va_get (D := (dC, dI)) (ci := 5) (v := .int (I 220)) (C := RX5) (T := TX5) (N := 3) hx hb hts hinX5 hown hK hP 2 rfl rfl 0 (by decide) (hts (.fieldLink RX9 300 "MixedWords$Sheet" "lane" "I") (by decide +kernel)) (fun _ h9 => h9) rfl dX9_refusal_37 ?_
          refine lv_iload_n hx hb dX9_refusal_40 rfl (lv_at hl 2 rfl) ?_
          refine lv_icmp_eq (tgt := 47) hx hb dX9_refusal_41 (by decide) (fun c_41_14 => ?_) (fun c_41_14 => ?_)
          · skip
            refine lv_iload_n hx hb dX9_refusal_47 rfl (lv_at hl 3 rfl) ?_
            refine lv_if_lt (tgt := 67) hx hb dX9_refusal_48 (by decide) (fun c_48_15 => ?_) (fun c_48_15 => ?_)
            · skip
              refine lv_bipush (v := (-13)) hx hb dX9_refusal_67 (by decide) ?_
              refine lv_goto (tgt := 73) hx hb dX9_refusal_69 (by decide) ?_
              exact xr_i (v := (-13)) hx hb hr hlocks hK hS dX9_refusal_73 (I, L, A, Q, G, J) ⟨(Or.inr ⟨0, i_7, by omega, hi_8, hxs9, hx_9, Or.inr (Or.inr ⟨hho_14, by assumption, Or.inl ⟨rfl, by first | exact ix_no1 (ln := 0) (by assumption) | exact ix_no2 hln9 hc25 hle9 (by assumption)⟩⟩)⟩), rfl⟩ hP hD
            · skip
              refine lv_iload_n hx hb dX9_refusal_51 rfl (lv_at hl 3 rfl) ?_
              refine lv_aload_n hx hb dX9_refusal_52 rfl (lv_at hl 0 rfl) ?_
              refine va_get (D := (dC, dI)) (ci := 9) (v := .ref (h 109)) (C := RX9) (T := TX9) (N := 9) hx hb hts hinX9 hown hK hP 0 rfl rfl 8 (by decide) (hts (.fieldLink RX9 71 "MixedWords" "sheets" "[LMixedWords$Sheet;") (by decide +kernel)) (fun _ h9 => h9) rfl dX9_refusal_53 ?_
              refine lv_iload_n hx hb dX9_refusal_56 rfl (lv_at hl 1 rfl) ?_
              refine xa_aald (b := h 110) hx hb hK hP 1 5 rfl rfl rfl (by omega) (by decide) (if_pos (by omega)) dX9_refusal_57 ?_
              refine va_get (D := (dC, dI)) (ci := 5) (v := .int (I 224)) (C := RX5) (T := TX5) (N := 3) hx hb hts hinX5 hown hK hP 2 rfl rfl 1 (by decide) (hts (.fieldLink RX9 278 "MixedWords$Sheet" "length" "I") (by decide +kernel)) (fun _ h9 => h9) rfl dX9_refusal_58 ?_
              obtain ⟨ln9, hln9, hle9⟩ := hln 0 (by decide)
              have hle9 : I 224 = nI ln9 := hle9
              refine xt_i (y := nI ln9) (hle9) ?_
              refine lv_iload hx hb dX9_refusal_61 (lv_at hl 4 rfl) ?_
              refine lv_isub hx hb dX9_refusal_63 ?_
              refine lv_icmp_le (tgt := 72) hx hb dX9_refusal_64 (by decide) (fun c_64_16 => ?_) (fun c_64_16 => ?_)
              · skip
                refine lv_iconst (v := nI 0) hx hb dX9_refusal_72 (by decide) ?_
                exact xr_i (v := (nI 0)) hx hb hr hlocks hK hS dX9_refusal_73 (I, L, A, Q, G, J) ⟨(Or.inr ⟨0, i_7, by omega, hi_8, hxs9, hx_9, Or.inr (Or.inr ⟨hho_14, by assumption, Or.inr ⟨rfl, by obtain ⟨iz, hz1, hz2⟩ := ix_yes (z := z) (ln := ln9) (c9 := c9) (by assumption) hln9 hc25 (by assumption); exact ⟨iz, ln9, hln9, hz1, hle9, hz2⟩⟩⟩)⟩), rfl⟩ hP hD
              · skip
                refine lv_bipush (v := (-13)) hx hb dX9_refusal_67 (by decide) ?_
                refine lv_goto (tgt := 73) hx hb dX9_refusal_69 (by decide) ?_
                exact xr_i (v := (-13)) hx hb hr hlocks hK hS dX9_refusal_73 (I, L, A, Q, G, J) ⟨(Or.inr ⟨0, i_7, by omega, hi_8, hxs9, hx_9, Or.inr (Or.inr ⟨hho_14, by assumption, Or.inl ⟨rfl, by first | exact ix_no1 (ln := 0) (by assumption) | exact ix_no2 hln9 hc25 hle9 (by assumption)⟩⟩)⟩), rfl⟩ hP hD
          · skip
            refine lv_bipush (v := (-12)) hx hb dX9_refusal_44 (by decide) ?_
            exact xr_i (v := (-12)) hx hb hr hlocks hK hS dX9_refusal_46 (I, L, A, Q, G, J) ⟨(Or.inr ⟨0, i_7, by omega, hi_8, hxs9, hx_9, Or.inr (Or.inl ⟨hho_14, by assumption, rfl⟩)⟩), rfl⟩ hP hD
        · skip
          refine lv_if_ne (tgt := 31) hx hb dX9_refusal_25 (by decide) (fun c9 => False.elim (by revert c9; decide +kernel)) (fun _ => ?_)
          refine lv_bipush (v := (-11)) hx hb dX9_refusal_28 (by decide) ?_
          exact xr_i (v := (-11)) hx hb hr hlocks hK hS dX9_refusal_30 (I, L, A, Q, G, J) ⟨(Or.inr ⟨0, i_7, by omega, hi_8, hxs9, hx_9, Or.inl ⟨hho_14, rfl⟩⟩), rfl⟩ hP hD
      · skip
        refine lv_if_ne (tgt := 16) hx hb dX9_refusal_11 (by decide) (fun c9 => False.elim (by revert c9; decide +kernel)) (fun _ => ?_)
        refine lv_iconst (v := (-1)) hx hb dX9_refusal_14 (by decide) ?_
        exact xr_i (v := (-1)) hx hb hr hlocks hK hS dX9_refusal_15 (I, L, A, Q, G, J) ⟨(Or.inl ⟨rfl, fun s v a9 b9 c9 d9 => hn_10 v b9 d9⟩), rfl⟩ hP hD
    · skip
      rw [hxs9] at hl
      refine lv_if_eq (tgt := 14) hx hb dX9_refusal_4 (by decide) (fun c9 => False.elim (by revert c9; decide +kernel)) (fun _ => ?_)
      refine lv_iload_n hx hb dX9_refusal_7 rfl (lv_at hl 2 rfl) ?_
      refine xj_i (wc := ([] : va_W)) (wr := (wFX h cs I L A Q G J)) hP hD hS hA [] [0, 1, 2, 3, 4, 5, 6, 7, 8, 9, 10, 11, 12, 13, 14, 15, 16, 17, 18, 19, 20, 21, 22] rfl rfl (by decide +kernel) (by decide +kernel) (va_runS (As := [.int y]) (rest := []) ⟨hx, hb, hml, hown, hts⟩ (k_X9_isLane l dC dI h cs H.size I L A Q G J y) (va_cwS 1 hts gX9_refusal_X9_isLane rfl rfl rfl (by decide +kernel) ⟨Nat.le_of_ble_eq_true rfl, Nat.le_of_ble_eq_true rfl⟩) (xpS (wc := ([] : va_W)) hP hD hK hN [] rfl (by decide) _) rfl rfl hl.1 rfl (lv_room (Nat.le_of_ble_eq_true rfl)) dX9_refusal_8 ⟨Nat.zero_le _, Nat.zero_le _⟩) (fun r_19 u_18 H locs hw hP hD hS => ?_)
      obtain ⟨hf_20, rfl⟩ := hw
      have hP : va_P (dC, dI) vwCl (wFX h cs I L A Q G J) H := hP
      have hD : va_D A0 (wFX h cs I L A Q G J) := hD
      rcases hf_20 with ⟨rfl, i_21, hi_22, hx_23⟩ | ⟨rfl, hn_24⟩
      · skip
        rw [hx_23] at hl
        refine lv_if_ne (tgt := 16) hx hb dX9_refusal_11 (by decide) (fun _ => ?_) (fun c9 => False.elim (by revert c9; decide +kernel))
        refine lv_aload_n hx hb dX9_refusal_16 rfl (lv_at hl 0 rfl) ?_
        refine va_get (D := (dC, dI)) (ci := 9) (v := .ref (h 109)) (C := RX9) (T := TX9) (N := 9) hx hb hts hinX9 hown hK hP 0 rfl rfl 8 (by decide) (hts (.fieldLink RX9 71 "MixedWords" "sheets" "[LMixedWords$Sheet;") (by decide +kernel)) (fun _ h9 => h9) rfl dX9_refusal_17 ?_
        refine lv_iload_n hx hb dX9_refusal_20 rfl (lv_at hl 1 rfl) ?_
        refine xa_aald (b := h 111) hx hb hK hP 1 5 rfl rfl rfl (by omega) (by decide) (if_pos (by omega)) dX9_refusal_21 ?_
        refine xj_i (wc := (wSheet (fun k => h (k + 1)) cs (fun k => I (k + 1)) L A (fun k => Q (k + 1)) G J)) (wr := [(h 100, .inr (9, [.ref (h 101), .ref (h 102), .ref (h 103), .ref (h 104), .ref (h 105), .ref (h 106), .ref (h 107), .ref (h 108), .ref (h 109)])), (h 109, .inl (cs 5, 4, .inr (.inr (.inr (.inr (fun i => if i < 4 then some (h (i + 110)) else none)))))), (h 110, .inr (5, [.int (I 220), .int (I 224), .ref (h 228)])), (h 228, .inl (cs 1, 25, .inr (.inl (Q 228)))), (h 112, .inr (5, [.int (I 222), .int (I 226), .ref (h 230)])), (h 230, .inl (cs 1, 25, .inr (.inl (Q 230)))), (h 113, .inr (5, [.int (I 223), .int (I 227), .ref (h 231)])), (h 231, .inl (cs 1, 25, .inr (.inl (Q 231)))), (h 101, .inr (3, [.int (I 120), .int (I 121), .int (I 122), .int (I 123), .ref (h 130), .ref (h 136)])), (h 130, .inl (cs 3, 5, .inr (.inr (.inr (.inr (fun i => if i < 5 then some (h (i + 131)) else none)))))), (h 131, .inl (cs 0, 4, .inl ((G 0) 0))), (h 132, .inl (cs 0, 4, .inl ((G 0) 1))), (h 133, .inl (cs 0, 4, .inl ((G 0) 2))), (h 134, .inl (cs 0, 4, .inl ((G 0) 3))), (h 135, .inl (cs 0, 4, .inl ((G 0) 4))), (h 136, .inl (cs 0, 5, .inl (A 136))), (h 102, .inr (0, [.ref (h 101), .ref (h 140), .ref (h 141), .ref (h 142), .ref (h 143), .int (I 144), .int (I 145), .int (I 146)])), (h 140, .inl (cs 0, 40, .inl (A 140))), (h 141, .inl (cs 0, 40, .inl (A 141))), (h 142, .inl (cs 0, 40, .inl (A 142))), (h 143, .inl (cs 0, 40, .inl (A 143)))]) hP hD hS hA [4, 5] [0, 1, 2, 3, 6, 7, 8, 9, 10, 11, 12, 13, 14, 15, 16, 17, 18, 19, 20, 21, 22] rfl rfl (by decide +kernel) (by decide +kernel) (va_runV (As := []) (rest := []) ⟨hx, hb, hml, hown, hts⟩ (k_X5_holds l dC dI (fun k => h (k + 1)) cs H.size (fun k => I (k + 1)) L A (fun k => Q (k + 1)) G J ) (cwV 0 hts gX9_refusal_X5_holds rfl rfl rfl (by decide +kernel) ⟨Nat.le_of_ble_eq_true rfl, Nat.le_of_ble_eq_true rfl⟩) (xpV (wc := (wSheet (fun k => h (k + 1)) cs (fun k => I (k + 1)) L A (fun k => Q (k + 1)) G J)) hP hD hK hN [4, 5] rfl (by decide) 4 (ci := 5) rfl rfl _) rfl rfl hl.1 rfl (lv_room (Nat.le_of_ble_eq_true rfl)) dX9_refusal_22 ⟨Nat.zero_le _, Nat.zero_le _⟩) (fun r_26 u_25 H locs hw hP hD hS => ?_)
        obtain ⟨hf_27, rfl⟩ := hw
        have hP : va_P (dC, dI) vwCl (wFX h cs I L A Q G J) H := xP_sub hP [0, 1, 2, 3, 21, 22, 4, 5, 6, 7, 8, 9, 10, 11, 12, 13, 14, 15, 16, 17, 18, 19, 20] rfl
        have hD : va_D A0 (wFX h cs I L A Q G J) := hD.sub [0, 1, 2, 3, 21, 22, 4, 5, 6, 7, 8, 9, 10, 11, 12, 13, 14, 15, 16, 17, 18, 19, 20] (by decide +kernel) rfl
        rcases (show (r_26 = nI 1 ∧ ¬ I 221 = -1) ∨ (r_26 = nI 0 ∧ I 221 = -1) from hf_27) with ⟨rfl, hho_28⟩ | ⟨rfl, hho_28⟩
        · skip
          refine lv_if_ne (tgt := 31) hx hb dX9_refusal_25 (by decide) (fun _ => ?_) (fun c9 => False.elim (by revert c9; decide +kernel))
          refine lv_aload_n hx hb dX9_refusal_31 rfl (lv_at hl 0 rfl) ?_
          refine va_get (D := (dC, dI)) (ci := 9) (v := .ref (h 109)) (C := RX9) (T := TX9) (N := 9) hx hb hts hinX9 hown hK hP 0 rfl rfl 8 (by decide) (hts (.fieldLink RX9 71 "MixedWords" "sheets" "[LMixedWords$Sheet;") (by decide +kernel)) (fun _ h9 => h9) rfl dX9_refusal_32 ?_
          refine lv_iload_n hx hb dX9_refusal_35 rfl (lv_at hl 1 rfl) ?_
          refine xa_aald (b := h 111) hx hb hK hP 1 5 rfl rfl rfl (by omega) (by decide) (if_pos (by omega)) dX9_refusal_36 ?_
          refine va_get (D := (dC, dI)) (ci := 5) (v := .int (I 221)) (C := RX5) (T := TX5) (N := 3) hx hb hts hinX5 hown hK hP 4 rfl rfl 0 (by decide) (hts (.fieldLink RX9 300 "MixedWords$Sheet" "lane" "I") (by decide +kernel)) (fun _ h9 => h9) rfl dX9_refusal_37 ?_
          refine lv_iload_n hx hb dX9_refusal_40 rfl (lv_at hl 2 rfl) ?_
          refine lv_icmp_eq (tgt := 47) hx hb dX9_refusal_41 (by decide) (fun c_41_28 => ?_) (fun c_41_28 => ?_)
          · skip
            refine lv_iload_n hx hb dX9_refusal_47 rfl (lv_at hl 3 rfl) ?_
            refine lv_if_lt (tgt := 67) hx hb dX9_refusal_48 (by decide) (fun c_48_29 => ?_) (fun c_48_29 => ?_)
            · skip
              refine lv_bipush (v := (-13)) hx hb dX9_refusal_67 (by decide) ?_
              refine lv_goto (tgt := 73) hx hb dX9_refusal_69 (by decide) ?_
              exact xr_i (v := (-13)) hx hb hr hlocks hK hS dX9_refusal_73 (I, L, A, Q, G, J) ⟨(Or.inr ⟨1, i_21, by omega, hi_22, hxs9, hx_23, Or.inr (Or.inr ⟨hho_28, by assumption, Or.inl ⟨rfl, by first | exact ix_no1 (ln := 0) (by assumption) | exact ix_no2 hln9 hc25 hle9 (by assumption)⟩⟩)⟩), rfl⟩ hP hD
            · skip
              refine lv_iload_n hx hb dX9_refusal_51 rfl (lv_at hl 3 rfl) ?_
              refine lv_aload_n hx hb dX9_refusal_52 rfl (lv_at hl 0 rfl) ?_
              refine va_get (D := (dC, dI)) (ci := 9) (v := .ref (h 109)) (C := RX9) (T := TX9) (N := 9) hx hb hts hinX9 hown hK hP 0 rfl rfl 8 (by decide) (hts (.fieldLink RX9 71 "MixedWords" "sheets" "[LMixedWords$Sheet;") (by decide +kernel)) (fun _ h9 => h9) rfl dX9_refusal_53 ?_
              refine lv_iload_n hx hb dX9_refusal_56 rfl (lv_at hl 1 rfl) ?_
              refine xa_aald (b := h 111) hx hb hK hP 1 5 rfl rfl rfl (by omega) (by decide) (if_pos (by omega)) dX9_refusal_57 ?_
              refine va_get (D := (dC, dI)) (ci := 5) (v := .int (I 225)) (C := RX5) (T := TX5) (N := 3) hx hb hts hinX5 hown hK hP 4 rfl rfl 1 (by decide) (hts (.fieldLink RX9 278 "MixedWords$Sheet" "length" "I") (by decide +kernel)) (fun _ h9 => h9) rfl dX9_refusal_58 ?_
              obtain ⟨ln9, hln9, hle9⟩ := hln 1 (by decide)
              have hle9 : I 225 = nI ln9 := hle9
              refine xt_i (y := nI ln9) (hle9) ?_
              refine lv_iload hx hb dX9_refusal_61 (lv_at hl 4 rfl) ?_
              refine lv_isub hx hb dX9_refusal_63 ?_
              refine lv_icmp_le (tgt := 72) hx hb dX9_refusal_64 (by decide) (fun c_64_30 => ?_) (fun c_64_30 => ?_)
              · skip
                refine lv_iconst (v := nI 0) hx hb dX9_refusal_72 (by decide) ?_
                exact xr_i (v := (nI 0)) hx hb hr hlocks hK hS dX9_refusal_73 (I, L, A, Q, G, J) ⟨(Or.inr ⟨1, i_21, by omega, hi_22, hxs9, hx_23, Or.inr (Or.inr ⟨hho_28, by assumption, Or.inr ⟨rfl, by obtain ⟨iz, hz1, hz2⟩ := ix_yes (z := z) (ln := ln9) (c9 := c9) (by assumption) hln9 hc25 (by assumption); exact ⟨iz, ln9, hln9, hz1, hle9, hz2⟩⟩⟩)⟩), rfl⟩ hP hD
              · skip
                refine lv_bipush (v := (-13)) hx hb dX9_refusal_67 (by decide) ?_
                refine lv_goto (tgt := 73) hx hb dX9_refusal_69 (by decide) ?_
                exact xr_i (v := (-13)) hx hb hr hlocks hK hS dX9_refusal_73 (I, L, A, Q, G, J) ⟨(Or.inr ⟨1, i_21, by omega, hi_22, hxs9, hx_23, Or.inr (Or.inr ⟨hho_28, by assumption, Or.inl ⟨rfl, by first | exact ix_no1 (ln := 0) (by assumption) | exact ix_no2 hln9 hc25 hle9 (by assumption)⟩⟩)⟩), rfl⟩ hP hD
          · skip
            refine lv_bipush (v := (-12)) hx hb dX9_refusal_44 (by decide) ?_
            exact xr_i (v := (-12)) hx hb hr hlocks hK hS dX9_refusal_46 (I, L, A, Q, G, J) ⟨(Or.inr ⟨1, i_21, by omega, hi_22, hxs9, hx_23, Or.inr (Or.inl ⟨hho_28, by assumption, rfl⟩)⟩), rfl⟩ hP hD
        · skip
          refine lv_if_ne (tgt := 31) hx hb dX9_refusal_25 (by decide) (fun c9 => False.elim (by revert c9; decide +kernel)) (fun _ => ?_)
          refine lv_bipush (v := (-11)) hx hb dX9_refusal_28 (by decide) ?_
          exact xr_i (v := (-11)) hx hb hr hlocks hK hS dX9_refusal_30 (I, L, A, Q, G, J) ⟨(Or.inr ⟨1, i_21, by omega, hi_22, hxs9, hx_23, Or.inl ⟨hho_28, rfl⟩⟩), rfl⟩ hP hD
      · skip
        refine lv_if_ne (tgt := 16) hx hb dX9_refusal_11 (by decide) (fun c9 => False.elim (by revert c9; decide +kernel)) (fun _ => ?_)
        refine lv_iconst (v := (-1)) hx hb dX9_refusal_14 (by decide) ?_
        exact xr_i (v := (-1)) hx hb hr hlocks hK hS dX9_refusal_15 (I, L, A, Q, G, J) ⟨(Or.inl ⟨rfl, fun s v a9 b9 c9 d9 => hn_24 v b9 d9⟩), rfl⟩ hP hD
    · skip
      rw [hxs9] at hl
      refine lv_if_eq (tgt := 14) hx hb dX9_refusal_4 (by decide) (fun c9 => False.elim (by revert c9; decide +kernel)) (fun _ => ?_)
      refine lv_iload_n hx hb dX9_refusal_7 rfl (lv_at hl 2 rfl) ?_
      refine xj_i (wc := ([] : va_W)) (wr := (wFX h cs I L A Q G J)) hP hD hS hA [] [0, 1, 2, 3, 4, 5, 6, 7, 8, 9, 10, 11, 12, 13, 14, 15, 16, 17, 18, 19, 20, 21, 22] rfl rfl (by decide +kernel) (by decide +kernel) (va_runS (As := [.int y]) (rest := []) ⟨hx, hb, hml, hown, hts⟩ (k_X9_isLane l dC dI h cs H.size I L A Q G J y) (va_cwS 1 hts gX9_refusal_X9_isLane rfl rfl rfl (by decide +kernel) ⟨Nat.le_of_ble_eq_true rfl, Nat.le_of_ble_eq_true rfl⟩) (xpS (wc := ([] : va_W)) hP hD hK hN [] rfl (by decide) _) rfl rfl hl.1 rfl (lv_room (Nat.le_of_ble_eq_true rfl)) dX9_refusal_8 ⟨Nat.zero_le _, Nat.zero_le _⟩) (fun r_33 u_32 H locs hw hP hD hS => ?_)
      obtain ⟨hf_34, rfl⟩ := hw
      have hP : va_P (dC, dI) vwCl (wFX h cs I L A Q G J) H := hP
      have hD : va_D A0 (wFX h cs I L A Q G J) := hD
      rcases hf_34 with ⟨rfl, i_35, hi_36, hx_37⟩ | ⟨rfl, hn_38⟩
      · skip
        rw [hx_37] at hl
        refine lv_if_ne (tgt := 16) hx hb dX9_refusal_11 (by decide) (fun _ => ?_) (fun c9 => False.elim (by revert c9; decide +kernel))
        refine lv_aload_n hx hb dX9_refusal_16 rfl (lv_at hl 0 rfl) ?_
        refine va_get (D := (dC, dI)) (ci := 9) (v := .ref (h 109)) (C := RX9) (T := TX9) (N := 9) hx hb hts hinX9 hown hK hP 0 rfl rfl 8 (by decide) (hts (.fieldLink RX9 71 "MixedWords" "sheets" "[LMixedWords$Sheet;") (by decide +kernel)) (fun _ h9 => h9) rfl dX9_refusal_17 ?_
        refine lv_iload_n hx hb dX9_refusal_20 rfl (lv_at hl 1 rfl) ?_
        refine xa_aald (b := h 112) hx hb hK hP 1 5 rfl rfl rfl (by omega) (by decide) (if_pos (by omega)) dX9_refusal_21 ?_
        refine xj_i (wc := (wSheet (fun k => h (k + 2)) cs (fun k => I (k + 2)) L A (fun k => Q (k + 2)) G J)) (wr := [(h 100, .inr (9, [.ref (h 101), .ref (h 102), .ref (h 103), .ref (h 104), .ref (h 105), .ref (h 106), .ref (h 107), .ref (h 108), .ref (h 109)])), (h 109, .inl (cs 5, 4, .inr (.inr (.inr (.inr (fun i => if i < 4 then some (h (i + 110)) else none)))))), (h 110, .inr (5, [.int (I 220), .int (I 224), .ref (h 228)])), (h 228, .inl (cs 1, 25, .inr (.inl (Q 228)))), (h 111, .inr (5, [.int (I 221), .int (I 225), .ref (h 229)])), (h 229, .inl (cs 1, 25, .inr (.inl (Q 229)))), (h 113, .inr (5, [.int (I 223), .int (I 227), .ref (h 231)])), (h 231, .inl (cs 1, 25, .inr (.inl (Q 231)))), (h 101, .inr (3, [.int (I 120), .int (I 121), .int (I 122), .int (I 123), .ref (h 130), .ref (h 136)])), (h 130, .inl (cs 3, 5, .inr (.inr (.inr (.inr (fun i => if i < 5 then some (h (i + 131)) else none)))))), (h 131, .inl (cs 0, 4, .inl ((G 0) 0))), (h 132, .inl (cs 0, 4, .inl ((G 0) 1))), (h 133, .inl (cs 0, 4, .inl ((G 0) 2))), (h 134, .inl (cs 0, 4, .inl ((G 0) 3))), (h 135, .inl (cs 0, 4, .inl ((G 0) 4))), (h 136, .inl (cs 0, 5, .inl (A 136))), (h 102, .inr (0, [.ref (h 101), .ref (h 140), .ref (h 141), .ref (h 142), .ref (h 143), .int (I 144), .int (I 145), .int (I 146)])), (h 140, .inl (cs 0, 40, .inl (A 140))), (h 141, .inl (cs 0, 40, .inl (A 141))), (h 142, .inl (cs 0, 40, .inl (A 142))), (h 143, .inl (cs 0, 40, .inl (A 143)))]) hP hD hS hA [6, 7] [0, 1, 2, 3, 4, 5, 8, 9, 10, 11, 12, 13, 14, 15, 16, 17, 18, 19, 20, 21, 22] rfl rfl (by decide +kernel) (by decide +kernel) (va_runV (As := []) (rest := []) ⟨hx, hb, hml, hown, hts⟩ (k_X5_holds l dC dI (fun k => h (k + 2)) cs H.size (fun k => I (k + 2)) L A (fun k => Q (k + 2)) G J ) (cwV 0 hts gX9_refusal_X5_holds rfl rfl rfl (by decide +kernel) ⟨Nat.le_of_ble_eq_true rfl, Nat.le_of_ble_eq_true rfl⟩) (xpV (wc := (wSheet (fun k => h (k + 2)) cs (fun k => I (k + 2)) L A (fun k => Q (k + 2)) G J)) hP hD hK hN [6, 7] rfl (by decide) 6 (ci := 5) rfl rfl _) rfl rfl hl.1 rfl (lv_room (Nat.le_of_ble_eq_true rfl)) dX9_refusal_22 ⟨Nat.zero_le _, Nat.zero_le _⟩) (fun r_40 u_39 H locs hw hP hD hS => ?_)
        obtain ⟨hf_41, rfl⟩ := hw
        have hP : va_P (dC, dI) vwCl (wFX h cs I L A Q G J) H := xP_sub hP [0, 1, 2, 3, 4, 5, 21, 22, 6, 7, 8, 9, 10, 11, 12, 13, 14, 15, 16, 17, 18, 19, 20] rfl
        have hD : va_D A0 (wFX h cs I L A Q G J) := hD.sub [0, 1, 2, 3, 4, 5, 21, 22, 6, 7, 8, 9, 10, 11, 12, 13, 14, 15, 16, 17, 18, 19, 20] (by decide +kernel) rfl
        rcases (show (r_40 = nI 1 ∧ ¬ I 222 = -1) ∨ (r_40 = nI 0 ∧ I 222 = -1) from hf_41) with ⟨rfl, hho_42⟩ | ⟨rfl, hho_42⟩
        · skip
          refine lv_if_ne (tgt := 31) hx hb dX9_refusal_25 (by decide) (fun _ => ?_) (fun c9 => False.elim (by revert c9; decide +kernel))
          refine lv_aload_n hx hb dX9_refusal_31 rfl (lv_at hl 0 rfl) ?_
          refine va_get (D := (dC, dI)) (ci := 9) (v := .ref (h 109)) (C := RX9) (T := TX9) (N := 9) hx hb hts hinX9 hown hK hP 0 rfl rfl 8 (by decide) (hts (.fieldLink RX9 71 "MixedWords" "sheets" "[LMixedWords$Sheet;") (by decide +kernel)) (fun _ h9 => h9) rfl dX9_refusal_32 ?_
          refine lv_iload_n hx hb dX9_refusal_35 rfl (lv_at hl 1 rfl) ?_
          refine xa_aald (b := h 112) hx hb hK hP 1 5 rfl rfl rfl (by omega) (by decide) (if_pos (by omega)) dX9_refusal_36 ?_
          refine va_get (D := (dC, dI)) (ci := 5) (v := .int (I 222)) (C := RX5) (T := TX5) (N := 3) hx hb hts hinX5 hown hK hP 6 rfl rfl 0 (by decide) (hts (.fieldLink RX9 300 "MixedWords$Sheet" "lane" "I") (by decide +kernel)) (fun _ h9 => h9) rfl dX9_refusal_37 ?_
          refine lv_iload_n hx hb dX9_refusal_40 rfl (lv_at hl 2 rfl) ?_
          refine lv_icmp_eq (tgt := 47) hx hb dX9_refusal_41 (by decide) (fun c_41_42 => ?_) (fun c_41_42 => ?_)
          · skip
            refine lv_iload_n hx hb dX9_refusal_47 rfl (lv_at hl 3 rfl) ?_
            refine lv_if_lt (tgt := 67) hx hb dX9_refusal_48 (by decide) (fun c_48_43 => ?_) (fun c_48_43 => ?_)
            · skip
              refine lv_bipush (v := (-13)) hx hb dX9_refusal_67 (by decide) ?_
              refine lv_goto (tgt := 73) hx hb dX9_refusal_69 (by decide) ?_
              exact xr_i (v := (-13)) hx hb hr hlocks hK hS dX9_refusal_73 (I, L, A, Q, G, J) ⟨(Or.inr ⟨2, i_35, by omega, hi_36, hxs9, hx_37, Or.inr (Or.inr ⟨hho_42, by assumption, Or.inl ⟨rfl, by first | exact ix_no1 (ln := 0) (by assumption) | exact ix_no2 hln9 hc25 hle9 (by assumption)⟩⟩)⟩), rfl⟩ hP hD
            · skip
              refine lv_iload_n hx hb dX9_refusal_51 rfl (lv_at hl 3 rfl) ?_
              refine lv_aload_n hx hb dX9_refusal_52 rfl (lv_at hl 0 rfl) ?_
              refine va_get (D := (dC, dI)) (ci := 9) (v := .ref (h 109)) (C := RX9) (T := TX9) (N := 9) hx hb hts hinX9 hown hK hP 0 rfl rfl 8 (by decide) (hts (.fieldLink RX9 71 "MixedWords" "sheets" "[LMixedWords$Sheet;") (by decide +kernel)) (fun _ h9 => h9) rfl dX9_refusal_53 ?_
              refine lv_iload_n hx hb dX9_refusal_56 rfl (lv_at hl 1 rfl) ?_
              refine xa_aald (b := h 112) hx hb hK hP 1 5 rfl rfl rfl (by omega) (by decide) (if_pos (by omega)) dX9_refusal_57 ?_
              refine va_get (D := (dC, dI)) (ci := 5) (v := .int (I 226)) (C := RX5) (T := TX5) (N := 3) hx hb hts hinX5 hown hK hP 6 rfl rfl 1 (by decide) (hts (.fieldLink RX9 278 "MixedWords$Sheet" "length" "I") (by decide +kernel)) (fun _ h9 => h9) rfl dX9_refusal_58 ?_
              obtain ⟨ln9, hln9, hle9⟩ := hln 2 (by decide)
              have hle9 : I 226 = nI ln9 := hle9
              refine xt_i (y := nI ln9) (hle9) ?_
              refine lv_iload hx hb dX9_refusal_61 (lv_at hl 4 rfl) ?_
              refine lv_isub hx hb dX9_refusal_63 ?_
              refine lv_icmp_le (tgt := 72) hx hb dX9_refusal_64 (by decide) (fun c_64_44 => ?_) (fun c_64_44 => ?_)
              · skip
                refine lv_iconst (v := nI 0) hx hb dX9_refusal_72 (by decide) ?_
                exact xr_i (v := (nI 0)) hx hb hr hlocks hK hS dX9_refusal_73 (I, L, A, Q, G, J) ⟨(Or.inr ⟨2, i_35, by omega, hi_36, hxs9, hx_37, Or.inr (Or.inr ⟨hho_42, by assumption, Or.inr ⟨rfl, by obtain ⟨iz, hz1, hz2⟩ := ix_yes (z := z) (ln := ln9) (c9 := c9) (by assumption) hln9 hc25 (by assumption); exact ⟨iz, ln9, hln9, hz1, hle9, hz2⟩⟩⟩)⟩), rfl⟩ hP hD
              · skip
                refine lv_bipush (v := (-13)) hx hb dX9_refusal_67 (by decide) ?_
                refine lv_goto (tgt := 73) hx hb dX9_refusal_69 (by decide) ?_
                exact xr_i (v := (-13)) hx hb hr hlocks hK hS dX9_refusal_73 (I, L, A, Q, G, J) ⟨(Or.inr ⟨2, i_35, by omega, hi_36, hxs9, hx_37, Or.inr (Or.inr ⟨hho_42, by assumption, Or.inl ⟨rfl, by first | exact ix_no1 (ln := 0) (by assumption) | exact ix_no2 hln9 hc25 hle9 (by assumption)⟩⟩)⟩), rfl⟩ hP hD
          · skip
            refine lv_bipush (v := (-12)) hx hb dX9_refusal_44 (by decide) ?_
            exact xr_i (v := (-12)) hx hb hr hlocks hK hS dX9_refusal_46 (I, L, A, Q, G, J) ⟨(Or.inr ⟨2, i_35, by omega, hi_36, hxs9, hx_37, Or.inr (Or.inl ⟨hho_42, by assumption, rfl⟩)⟩), rfl⟩ hP hD
        · skip
          refine lv_if_ne (tgt := 31) hx hb dX9_refusal_25 (by decide) (fun c9 => False.elim (by revert c9; decide +kernel)) (fun _ => ?_)
          refine lv_bipush (v := (-11)) hx hb dX9_refusal_28 (by decide) ?_
          exact xr_i (v := (-11)) hx hb hr hlocks hK hS dX9_refusal_30 (I, L, A, Q, G, J) ⟨(Or.inr ⟨2, i_35, by omega, hi_36, hxs9, hx_37, Or.inl ⟨hho_42, rfl⟩⟩), rfl⟩ hP hD
      · skip
        refine lv_if_ne (tgt := 16) hx hb dX9_refusal_11 (by decide) (fun c9 => False.elim (by revert c9; decide +kernel)) (fun _ => ?_)
        refine lv_iconst (v := (-1)) hx hb dX9_refusal_14 (by decide) ?_
        exact xr_i (v := (-1)) hx hb hr hlocks hK hS dX9_refusal_15 (I, L, A, Q, G, J) ⟨(Or.inl ⟨rfl, fun s v a9 b9 c9 d9 => hn_38 v b9 d9⟩), rfl⟩ hP hD
    · skip
      rw [hxs9] at hl
      refine lv_if_eq (tgt := 14) hx hb dX9_refusal_4 (by decide) (fun c9 => False.elim (by revert c9; decide +kernel)) (fun _ => ?_)
      refine lv_iload_n hx hb dX9_refusal_7 rfl (lv_at hl 2 rfl) ?_
      refine xj_i (wc := ([] : va_W)) (wr := (wFX h cs I L A Q G J)) hP hD hS hA [] [0, 1, 2, 3, 4, 5, 6, 7, 8, 9, 10, 11, 12, 13, 14, 15, 16, 17, 18, 19, 20, 21, 22] rfl rfl (by decide +kernel) (by decide +kernel) (va_runS (As := [.int y]) (rest := []) ⟨hx, hb, hml, hown, hts⟩ (k_X9_isLane l dC dI h cs H.size I L A Q G J y) (va_cwS 1 hts gX9_refusal_X9_isLane rfl rfl rfl (by decide +kernel) ⟨Nat.le_of_ble_eq_true rfl, Nat.le_of_ble_eq_true rfl⟩) (xpS (wc := ([] : va_W)) hP hD hK hN [] rfl (by decide) _) rfl rfl hl.1 rfl (lv_room (Nat.le_of_ble_eq_true rfl)) dX9_refusal_8 ⟨Nat.zero_le _, Nat.zero_le _⟩) (fun r_47 u_46 H locs hw hP hD hS => ?_)
      obtain ⟨hf_48, rfl⟩ := hw
      have hP : va_P (dC, dI) vwCl (wFX h cs I L A Q G J) H := hP
      have hD : va_D A0 (wFX h cs I L A Q G J) := hD
      rcases hf_48 with ⟨rfl, i_49, hi_50, hx_51⟩ | ⟨rfl, hn_52⟩
      · skip
        rw [hx_51] at hl
        refine lv_if_ne (tgt := 16) hx hb dX9_refusal_11 (by decide) (fun _ => ?_) (fun c9 => False.elim (by revert c9; decide +kernel))
        refine lv_aload_n hx hb dX9_refusal_16 rfl (lv_at hl 0 rfl) ?_
        refine va_get (D := (dC, dI)) (ci := 9) (v := .ref (h 109)) (C := RX9) (T := TX9) (N := 9) hx hb hts hinX9 hown hK hP 0 rfl rfl 8 (by decide) (hts (.fieldLink RX9 71 "MixedWords" "sheets" "[LMixedWords$Sheet;") (by decide +kernel)) (fun _ h9 => h9) rfl dX9_refusal_17 ?_
        refine lv_iload_n hx hb dX9_refusal_20 rfl (lv_at hl 1 rfl) ?_
        refine xa_aald (b := h 113) hx hb hK hP 1 5 rfl rfl rfl (by omega) (by decide) (if_pos (by omega)) dX9_refusal_21 ?_
        refine xj_i (wc := (wSheet (fun k => h (k + 3)) cs (fun k => I (k + 3)) L A (fun k => Q (k + 3)) G J)) (wr := [(h 100, .inr (9, [.ref (h 101), .ref (h 102), .ref (h 103), .ref (h 104), .ref (h 105), .ref (h 106), .ref (h 107), .ref (h 108), .ref (h 109)])), (h 109, .inl (cs 5, 4, .inr (.inr (.inr (.inr (fun i => if i < 4 then some (h (i + 110)) else none)))))), (h 110, .inr (5, [.int (I 220), .int (I 224), .ref (h 228)])), (h 228, .inl (cs 1, 25, .inr (.inl (Q 228)))), (h 111, .inr (5, [.int (I 221), .int (I 225), .ref (h 229)])), (h 229, .inl (cs 1, 25, .inr (.inl (Q 229)))), (h 112, .inr (5, [.int (I 222), .int (I 226), .ref (h 230)])), (h 230, .inl (cs 1, 25, .inr (.inl (Q 230)))), (h 101, .inr (3, [.int (I 120), .int (I 121), .int (I 122), .int (I 123), .ref (h 130), .ref (h 136)])), (h 130, .inl (cs 3, 5, .inr (.inr (.inr (.inr (fun i => if i < 5 then some (h (i + 131)) else none)))))), (h 131, .inl (cs 0, 4, .inl ((G 0) 0))), (h 132, .inl (cs 0, 4, .inl ((G 0) 1))), (h 133, .inl (cs 0, 4, .inl ((G 0) 2))), (h 134, .inl (cs 0, 4, .inl ((G 0) 3))), (h 135, .inl (cs 0, 4, .inl ((G 0) 4))), (h 136, .inl (cs 0, 5, .inl (A 136))), (h 102, .inr (0, [.ref (h 101), .ref (h 140), .ref (h 141), .ref (h 142), .ref (h 143), .int (I 144), .int (I 145), .int (I 146)])), (h 140, .inl (cs 0, 40, .inl (A 140))), (h 141, .inl (cs 0, 40, .inl (A 141))), (h 142, .inl (cs 0, 40, .inl (A 142))), (h 143, .inl (cs 0, 40, .inl (A 143)))]) hP hD hS hA [8, 9] [0, 1, 2, 3, 4, 5, 6, 7, 10, 11, 12, 13, 14, 15, 16, 17, 18, 19, 20, 21, 22] rfl rfl (by decide +kernel) (by decide +kernel) (va_runV (As := []) (rest := []) ⟨hx, hb, hml, hown, hts⟩ (k_X5_holds l dC dI (fun k => h (k + 3)) cs H.size (fun k => I (k + 3)) L A (fun k => Q (k + 3)) G J ) (cwV 0 hts gX9_refusal_X5_holds rfl rfl rfl (by decide +kernel) ⟨Nat.le_of_ble_eq_true rfl, Nat.le_of_ble_eq_true rfl⟩) (xpV (wc := (wSheet (fun k => h (k + 3)) cs (fun k => I (k + 3)) L A (fun k => Q (k + 3)) G J)) hP hD hK hN [8, 9] rfl (by decide) 8 (ci := 5) rfl rfl _) rfl rfl hl.1 rfl (lv_room (Nat.le_of_ble_eq_true rfl)) dX9_refusal_22 ⟨Nat.zero_le _, Nat.zero_le _⟩) (fun r_54 u_53 H locs hw hP hD hS => ?_)
        obtain ⟨hf_55, rfl⟩ := hw
        have hP : va_P (dC, dI) vwCl (wFX h cs I L A Q G J) H := xP_sub hP [0, 1, 2, 3, 4, 5, 6, 7, 21, 22, 8, 9, 10, 11, 12, 13, 14, 15, 16, 17, 18, 19, 20] rfl
        have hD : va_D A0 (wFX h cs I L A Q G J) := hD.sub [0, 1, 2, 3, 4, 5, 6, 7, 21, 22, 8, 9, 10, 11, 12, 13, 14, 15, 16, 17, 18, 19, 20] (by decide +kernel) rfl
        rcases (show (r_54 = nI 1 ∧ ¬ I 223 = -1) ∨ (r_54 = nI 0 ∧ I 223 = -1) from hf_55) with ⟨rfl, hho_56⟩ | ⟨rfl, hho_56⟩
        · skip
          refine lv_if_ne (tgt := 31) hx hb dX9_refusal_25 (by decide) (fun _ => ?_) (fun c9 => False.elim (by revert c9; decide +kernel))
          refine lv_aload_n hx hb dX9_refusal_31 rfl (lv_at hl 0 rfl) ?_
          refine va_get (D := (dC, dI)) (ci := 9) (v := .ref (h 109)) (C := RX9) (T := TX9) (N := 9) hx hb hts hinX9 hown hK hP 0 rfl rfl 8 (by decide) (hts (.fieldLink RX9 71 "MixedWords" "sheets" "[LMixedWords$Sheet;") (by decide +kernel)) (fun _ h9 => h9) rfl dX9_refusal_32 ?_
          refine lv_iload_n hx hb dX9_refusal_35 rfl (lv_at hl 1 rfl) ?_
          refine xa_aald (b := h 113) hx hb hK hP 1 5 rfl rfl rfl (by omega) (by decide) (if_pos (by omega)) dX9_refusal_36 ?_
          refine va_get (D := (dC, dI)) (ci := 5) (v := .int (I 223)) (C := RX5) (T := TX5) (N := 3) hx hb hts hinX5 hown hK hP 8 rfl rfl 0 (by decide) (hts (.fieldLink RX9 300 "MixedWords$Sheet" "lane" "I") (by decide +kernel)) (fun _ h9 => h9) rfl dX9_refusal_37 ?_
          refine lv_iload_n hx hb dX9_refusal_40 rfl (lv_at hl 2 rfl) ?_
          refine lv_icmp_eq (tgt := 47) hx hb dX9_refusal_41 (by decide) (fun c_41_56 => ?_) (fun c_41_56 => ?_)
          · skip
            refine lv_iload_n hx hb dX9_refusal_47 rfl (lv_at hl 3 rfl) ?_
            refine lv_if_lt (tgt := 67) hx hb dX9_refusal_48 (by decide) (fun c_48_57 => ?_) (fun c_48_57 => ?_)
            · skip
              refine lv_bipush (v := (-13)) hx hb dX9_refusal_67 (by decide) ?_
              refine lv_goto (tgt := 73) hx hb dX9_refusal_69 (by decide) ?_
              exact xr_i (v := (-13)) hx hb hr hlocks hK hS dX9_refusal_73 (I, L, A, Q, G, J) ⟨(Or.inr ⟨3, i_49, by omega, hi_50, hxs9, hx_51, Or.inr (Or.inr ⟨hho_56, by assumption, Or.inl ⟨rfl, by first | exact ix_no1 (ln := 0) (by assumption) | exact ix_no2 hln9 hc25 hle9 (by assumption)⟩⟩)⟩), rfl⟩ hP hD
            · skip
              refine lv_iload_n hx hb dX9_refusal_51 rfl (lv_at hl 3 rfl) ?_
              refine lv_aload_n hx hb dX9_refusal_52 rfl (lv_at hl 0 rfl) ?_
              refine va_get (D := (dC, dI)) (ci := 9) (v := .ref (h 109)) (C := RX9) (T := TX9) (N := 9) hx hb hts hinX9 hown hK hP 0 rfl rfl 8 (by decide) (hts (.fieldLink RX9 71 "MixedWords" "sheets" "[LMixedWords$Sheet;") (by decide +kernel)) (fun _ h9 => h9) rfl dX9_refusal_53 ?_
              refine lv_iload_n hx hb dX9_refusal_56 rfl (lv_at hl 1 rfl) ?_
              refine xa_aald (b := h 113) hx hb hK hP 1 5 rfl rfl rfl (by omega) (by decide) (if_pos (by omega)) dX9_refusal_57 ?_
              refine va_get (D := (dC, dI)) (ci := 5) (v := .int (I 227)) (C := RX5) (T := TX5) (N := 3) hx hb hts hinX5 hown hK hP 8 rfl rfl 1 (by decide) (hts (.fieldLink RX9 278 "MixedWords$Sheet" "length" "I") (by decide +kernel)) (fun _ h9 => h9) rfl dX9_refusal_58 ?_
              obtain ⟨ln9, hln9, hle9⟩ := hln 3 (by decide)
              have hle9 : I 227 = nI ln9 := hle9
              refine xt_i (y := nI ln9) (hle9) ?_
              refine lv_iload hx hb dX9_refusal_61 (lv_at hl 4 rfl) ?_
              refine lv_isub hx hb dX9_refusal_63 ?_
              refine lv_icmp_le (tgt := 72) hx hb dX9_refusal_64 (by decide) (fun c_64_58 => ?_) (fun c_64_58 => ?_)
              · skip
                refine lv_iconst (v := nI 0) hx hb dX9_refusal_72 (by decide) ?_
                exact xr_i (v := (nI 0)) hx hb hr hlocks hK hS dX9_refusal_73 (I, L, A, Q, G, J) ⟨(Or.inr ⟨3, i_49, by omega, hi_50, hxs9, hx_51, Or.inr (Or.inr ⟨hho_56, by assumption, Or.inr ⟨rfl, by obtain ⟨iz, hz1, hz2⟩ := ix_yes (z := z) (ln := ln9) (c9 := c9) (by assumption) hln9 hc25 (by assumption); exact ⟨iz, ln9, hln9, hz1, hle9, hz2⟩⟩⟩)⟩), rfl⟩ hP hD
              · skip
                refine lv_bipush (v := (-13)) hx hb dX9_refusal_67 (by decide) ?_
                refine lv_goto (tgt := 73) hx hb dX9_refusal_69 (by decide) ?_
                exact xr_i (v := (-13)) hx hb hr hlocks hK hS dX9_refusal_73 (I, L, A, Q, G, J) ⟨(Or.inr ⟨3, i_49, by omega, hi_50, hxs9, hx_51, Or.inr (Or.inr ⟨hho_56, by assumption, Or.inl ⟨rfl, by first | exact ix_no1 (ln := 0) (by assumption) | exact ix_no2 hln9 hc25 hle9 (by assumption)⟩⟩)⟩), rfl⟩ hP hD
          · skip
            refine lv_bipush (v := (-12)) hx hb dX9_refusal_44 (by decide) ?_
            exact xr_i (v := (-12)) hx hb hr hlocks hK hS dX9_refusal_46 (I, L, A, Q, G, J) ⟨(Or.inr ⟨3, i_49, by omega, hi_50, hxs9, hx_51, Or.inr (Or.inl ⟨hho_56, by assumption, rfl⟩)⟩), rfl⟩ hP hD
        · skip
          refine lv_if_ne (tgt := 31) hx hb dX9_refusal_25 (by decide) (fun c9 => False.elim (by revert c9; decide +kernel)) (fun _ => ?_)
          refine lv_bipush (v := (-11)) hx hb dX9_refusal_28 (by decide) ?_
          exact xr_i (v := (-11)) hx hb hr hlocks hK hS dX9_refusal_30 (I, L, A, Q, G, J) ⟨(Or.inr ⟨3, i_49, by omega, hi_50, hxs9, hx_51, Or.inl ⟨hho_56, rfl⟩⟩), rfl⟩ hP hD
      · skip
        refine lv_if_ne (tgt := 16) hx hb dX9_refusal_11 (by decide) (fun c9 => False.elim (by revert c9; decide +kernel)) (fun _ => ?_)
        refine lv_iconst (v := (-1)) hx hb dX9_refusal_14 (by decide) ?_
        exact xr_i (v := (-1)) hx hb hr hlocks hK hS dX9_refusal_15 (I, L, A, Q, G, J) ⟨(Or.inl ⟨rfl, fun s v a9 b9 c9 d9 => hn_52 v b9 d9⟩), rfl⟩ hP hD
  · skip
    refine lv_if_eq (tgt := 14) hx hb dX9_refusal_4 (by decide) (fun _ => ?_) (fun c9 => False.elim (by revert c9; decide +kernel))
    refine lv_iconst (v := (-1)) hx hb dX9_refusal_14 (by decide) ?_
    exact xr_i (v := (-1)) hx hb hr hlocks hK hS dX9_refusal_15 (I, L, A, Q, G, J) ⟨(Or.inl ⟨rfl, fun s v a9 b9 c9 d9 => hns9 s a9 c9⟩), rfl⟩ hP hD
set_option maxRecDepth 20000 in
theorem ggX9_rows_X9_refusal : GoodIn wsX9_rows wsX9_refusal := goodIn_r _ [11, 4, 12, 13, 14, 15, 10, 16, 17, 18, 19, 20, 21, 22, 23, 24, 25, 54, 55, 56, 57, 58, 59, 60, 61, 62, 69, 70, 71] rfl (by decide +kernel)
set_option maxRecDepth 20000 in
theorem gX9_rows_X9_refusal : GoodIn wsX9_rows (wsV RX9 284 RX9 yX9_refusal wsX9_refusal) := goodIn_app (goodIn_of _ (by decide +kernel)) ggX9_rows_X9_refusal
set_option maxRecDepth 20000 in
theorem ggX9_rows_X3_takes : GoodIn wsX9_rows wsX3_takes := goodIn_r _ [30, 31, 32, 33, 10, 34, 63, 64, 65, 66, 67, 68] rfl (by decide +kernel)
set_option maxRecDepth 20000 in
theorem gX9_rows_X3_takes : GoodIn wsX9_rows (wsV RX9 293 RX3 yX3_takes wsX3_takes) := goodIn_app (goodIn_of _ (by decide +kernel)) ggX9_rows_X3_takes
set_option maxRecDepth 20000 in
theorem ggX9_rows_X3_copy : GoodIn wsX9_rows wsX3_copy := goodIn_r _ [38, 31, 32, 39, 40, 41, 29, 42, 43, 44, 45, 63, 64, 65, 66, 67, 68] rfl (by decide +kernel)
set_option maxRecDepth 20000 in
theorem gX9_rows_X3_copy : GoodIn wsX9_rows (wsV RX9 296 RX3 yX3_copy wsX3_copy) := goodIn_app (goodIn_of _ (by decide +kernel)) ggX9_rows_X3_copy
set_option maxRecDepth 20000 in
theorem ggX9_rows_X0_forget : GoodIn wsX9_rows wsX0_forget := goodIn_r _ [50, 51, 52, 53, 72, 73, 74, 75, 76, 77, 78, 79] rfl (by decide +kernel)
set_option maxRecDepth 20000 in
theorem gX9_rows_X0_forget : GoodIn wsX9_rows (wsV RX9 80 RX0 yX0_forget wsX0_forget) := goodIn_app (goodIn_of _ (by decide +kernel)) ggX9_rows_X0_forget
theorem bdX9_rows_0 : (decode cX9_rows 0 = .ok (.aload_n 0, 1)) ∧ (decode cX9_rows 1 = .ok (.iload_n 1, 1)) ∧ (decode cX9_rows 2 = .ok (.iload_n 2, 1)) ∧ (decode cX9_rows 3 = .ok (.iload_n 3, 1)) ∧ (decode cX9_rows 4 = .ok (.aload_n 0, 1)) ∧ (decode cX9_rows 5 = .ok (.getfield 12, 3)) ∧ (decode cX9_rows 8 = .ok (.getfield 147, 3)) ∧ (decode cX9_rows 11 = .ok (.aload_n 0, 1)) ∧ (decode cX9_rows 12 = .ok (.getfield 12, 3)) ∧ (decode cX9_rows 15 = .ok (.getfield 106, 3)) ∧ (decode cX9_rows 18 = .ok (.iconst 1, 1)) ∧ (decode cX9_rows 19 = .ok (.iadd, 1)) ∧ (decode cX9_rows 20 = .ok (.imul, 1)) ∧ (decode cX9_rows 21 = .ok (.invokevirtual 284, 3)) ∧ (decode cX9_rows 24 = .ok (.istore 4, 2)) ∧ (decode cX9_rows 26 = .ok (.iload 4, 2)) := by decide +kernel
theorem dX9_rows_0 : decode cX9_rows 0 = .ok (.aload_n 0, 1) := bdX9_rows_0.1
theorem dX9_rows_1 : decode cX9_rows 1 = .ok (.iload_n 1, 1) := bdX9_rows_0.2.1
theorem dX9_rows_2 : decode cX9_rows 2 = .ok (.iload_n 2, 1) := bdX9_rows_0.2.2.1
theorem dX9_rows_3 : decode cX9_rows 3 = .ok (.iload_n 3, 1) := bdX9_rows_0.2.2.2.1
theorem dX9_rows_4 : decode cX9_rows 4 = .ok (.aload_n 0, 1) := bdX9_rows_0.2.2.2.2.1
theorem dX9_rows_5 : decode cX9_rows 5 = .ok (.getfield 12, 3) := bdX9_rows_0.2.2.2.2.2.1
theorem dX9_rows_8 : decode cX9_rows 8 = .ok (.getfield 147, 3) := bdX9_rows_0.2.2.2.2.2.2.1
theorem dX9_rows_11 : decode cX9_rows 11 = .ok (.aload_n 0, 1) := bdX9_rows_0.2.2.2.2.2.2.2.1
theorem dX9_rows_12 : decode cX9_rows 12 = .ok (.getfield 12, 3) := bdX9_rows_0.2.2.2.2.2.2.2.2.1
theorem dX9_rows_15 : decode cX9_rows 15 = .ok (.getfield 106, 3) := bdX9_rows_0.2.2.2.2.2.2.2.2.2.1
theorem dX9_rows_18 : decode cX9_rows 18 = .ok (.iconst 1, 1) := bdX9_rows_0.2.2.2.2.2.2.2.2.2.2.1
theorem dX9_rows_19 : decode cX9_rows 19 = .ok (.iadd, 1) := bdX9_rows_0.2.2.2.2.2.2.2.2.2.2.2.1
theorem dX9_rows_20 : decode cX9_rows 20 = .ok (.imul, 1) := bdX9_rows_0.2.2.2.2.2.2.2.2.2.2.2.2.1
theorem dX9_rows_21 : decode cX9_rows 21 = .ok (.invokevirtual 284, 3) := bdX9_rows_0.2.2.2.2.2.2.2.2.2.2.2.2.2.1
theorem dX9_rows_24 : decode cX9_rows 24 = .ok (.istore 4, 2) := bdX9_rows_0.2.2.2.2.2.2.2.2.2.2.2.2.2.2.1
theorem dX9_rows_26 : decode cX9_rows 26 = .ok (.iload 4, 2) := bdX9_rows_0.2.2.2.2.2.2.2.2.2.2.2.2.2.2.2
theorem bdX9_rows_28 : (decode cX9_rows 28 = .ok (.ifCond .eq 6, 3)) ∧ (decode cX9_rows 31 = .ok (.iload 4, 2)) ∧ (decode cX9_rows 33 = .ok (.ireturn, 1)) ∧ (decode cX9_rows 34 = .ok (.aload_n 0, 1)) ∧ (decode cX9_rows 35 = .ok (.getfield 12, 3)) ∧ (decode cX9_rows 38 = .ok (.aload_n 0, 1)) ∧ (decode cX9_rows 39 = .ok (.getfield 71, 3)) ∧ (decode cX9_rows 42 = .ok (.iload_n 1, 1)) ∧ (decode cX9_rows 43 = .ok (.aaload, 1)) ∧ (decode cX9_rows 44 = .ok (.getfield 290, 3)) ∧ (decode cX9_rows 47 = .ok (.iload_n 3, 1)) ∧ (decode cX9_rows 48 = .ok (.invokevirtual 293, 3)) ∧ (decode cX9_rows 51 = .ok (.ifCond .ne 6, 3)) ∧ (decode cX9_rows 54 = .ok (.bipush (-2), 2)) ∧ (decode cX9_rows 56 = .ok (.ireturn, 1)) ∧ (decode cX9_rows 57 = .ok (.aload_n 0, 1)) := by decide +kernel
theorem dX9_rows_28 : decode cX9_rows 28 = .ok (.ifCond .eq 6, 3) := bdX9_rows_28.1
theorem dX9_rows_31 : decode cX9_rows 31 = .ok (.iload 4, 2) := bdX9_rows_28.2.1
theorem dX9_rows_33 : decode cX9_rows 33 = .ok (.ireturn, 1) := bdX9_rows_28.2.2.1
theorem dX9_rows_34 : decode cX9_rows 34 = .ok (.aload_n 0, 1) := bdX9_rows_28.2.2.2.1
theorem dX9_rows_35 : decode cX9_rows 35 = .ok (.getfield 12, 3) := bdX9_rows_28.2.2.2.2.1
theorem dX9_rows_38 : decode cX9_rows 38 = .ok (.aload_n 0, 1) := bdX9_rows_28.2.2.2.2.2.1
theorem dX9_rows_39 : decode cX9_rows 39 = .ok (.getfield 71, 3) := bdX9_rows_28.2.2.2.2.2.2.1
theorem dX9_rows_42 : decode cX9_rows 42 = .ok (.iload_n 1, 1) := bdX9_rows_28.2.2.2.2.2.2.2.1
theorem dX9_rows_43 : decode cX9_rows 43 = .ok (.aaload, 1) := bdX9_rows_28.2.2.2.2.2.2.2.2.1
theorem dX9_rows_44 : decode cX9_rows 44 = .ok (.getfield 290, 3) := bdX9_rows_28.2.2.2.2.2.2.2.2.2.1
theorem dX9_rows_47 : decode cX9_rows 47 = .ok (.iload_n 3, 1) := bdX9_rows_28.2.2.2.2.2.2.2.2.2.2.1
theorem dX9_rows_48 : decode cX9_rows 48 = .ok (.invokevirtual 293, 3) := bdX9_rows_28.2.2.2.2.2.2.2.2.2.2.2.1
theorem dX9_rows_51 : decode cX9_rows 51 = .ok (.ifCond .ne 6, 3) := bdX9_rows_28.2.2.2.2.2.2.2.2.2.2.2.2.1
theorem dX9_rows_54 : decode cX9_rows 54 = .ok (.bipush (-2), 2) := bdX9_rows_28.2.2.2.2.2.2.2.2.2.2.2.2.2.1
theorem dX9_rows_56 : decode cX9_rows 56 = .ok (.ireturn, 1) := bdX9_rows_28.2.2.2.2.2.2.2.2.2.2.2.2.2.2.1
theorem dX9_rows_57 : decode cX9_rows 57 = .ok (.aload_n 0, 1) := bdX9_rows_28.2.2.2.2.2.2.2.2.2.2.2.2.2.2.2
theorem bdX9_rows_58 : (decode cX9_rows 58 = .ok (.getfield 12, 3)) ∧ (decode cX9_rows 61 = .ok (.aload_n 0, 1)) ∧ (decode cX9_rows 62 = .ok (.getfield 71, 3)) ∧ (decode cX9_rows 65 = .ok (.iload_n 1, 1)) ∧ (decode cX9_rows 66 = .ok (.aaload, 1)) ∧ (decode cX9_rows 67 = .ok (.getfield 290, 3)) ∧ (decode cX9_rows 70 = .ok (.iload_n 3, 1)) ∧ (decode cX9_rows 71 = .ok (.invokevirtual 296, 3)) ∧ (decode cX9_rows 74 = .ok (.aload_n 0, 1)) ∧ (decode cX9_rows 75 = .ok (.getfield 21, 3)) ∧ (decode cX9_rows 78 = .ok (.invokevirtual 80, 3)) ∧ (decode cX9_rows 81 = .ok (.aload_n 0, 1)) ∧ (decode cX9_rows 82 = .ok (.getfield 12, 3)) ∧ (decode cX9_rows 85 = .ok (.getfield 147, 3)) ∧ (decode cX9_rows 88 = .ok (.ireturn, 1)) := by decide +kernel
theorem dX9_rows_58 : decode cX9_rows 58 = .ok (.getfield 12, 3) := bdX9_rows_58.1
theorem dX9_rows_61 : decode cX9_rows 61 = .ok (.aload_n 0, 1) := bdX9_rows_58.2.1
theorem dX9_rows_62 : decode cX9_rows 62 = .ok (.getfield 71, 3) := bdX9_rows_58.2.2.1
theorem dX9_rows_65 : decode cX9_rows 65 = .ok (.iload_n 1, 1) := bdX9_rows_58.2.2.2.1
theorem dX9_rows_66 : decode cX9_rows 66 = .ok (.aaload, 1) := bdX9_rows_58.2.2.2.2.1
theorem dX9_rows_67 : decode cX9_rows 67 = .ok (.getfield 290, 3) := bdX9_rows_58.2.2.2.2.2.1
theorem dX9_rows_70 : decode cX9_rows 70 = .ok (.iload_n 3, 1) := bdX9_rows_58.2.2.2.2.2.2.1
theorem dX9_rows_71 : decode cX9_rows 71 = .ok (.invokevirtual 296, 3) := bdX9_rows_58.2.2.2.2.2.2.2.1
theorem dX9_rows_74 : decode cX9_rows 74 = .ok (.aload_n 0, 1) := bdX9_rows_58.2.2.2.2.2.2.2.2.1
theorem dX9_rows_75 : decode cX9_rows 75 = .ok (.getfield 21, 3) := bdX9_rows_58.2.2.2.2.2.2.2.2.2.1
theorem dX9_rows_78 : decode cX9_rows 78 = .ok (.invokevirtual 80, 3) := bdX9_rows_58.2.2.2.2.2.2.2.2.2.2.1
theorem dX9_rows_81 : decode cX9_rows 81 = .ok (.aload_n 0, 1) := bdX9_rows_58.2.2.2.2.2.2.2.2.2.2.2.1
theorem dX9_rows_82 : decode cX9_rows 82 = .ok (.getfield 12, 3) := bdX9_rows_58.2.2.2.2.2.2.2.2.2.2.2.2.1
theorem dX9_rows_85 : decode cX9_rows 85 = .ok (.getfield 147, 3) := bdX9_rows_58.2.2.2.2.2.2.2.2.2.2.2.2.2.1
theorem dX9_rows_88 : decode cX9_rows 88 = .ok (.ireturn, 1) := bdX9_rows_58.2.2.2.2.2.2.2.2.2.2.2.2.2.2
set_option maxHeartbeats 4000000 in
set_option maxRecDepth 100000 in
theorem k_X9_rows (l : Launch) (dC : Nat → ClassId) (dI : Nat → Nat → Nat) (h : Nat → Nat) (cs : Nat → ClassId) (sz : Nat) (I : Nat → Int32) (L : Nat → Int64) (A : Nat → Nat → Int32) (Q : Nat → Nat → Int64) (G : Nat → Nat → Nat → Int32) (J : Nat → Nat → Nat → Int64) (x y z : Int32) (R M sp9 : Nat) (hR : I 120 = nI R) (hR1 : 1 ≤ R) (hR5 : R ≤ 5) (hM : I 121 = nI M) (hM1 : 1 ≤ M) (hM4 : M ≤ 4) (hst : I 123 = nI sp9) (hst2 : sp9 < 999999000) (hln : ∀ k : Nat, k < 4 → ∃ ln : Nat, ln ≤ 25 ∧ I (224 + k) = nI ln) : Met l yX9_rows wsX9_rows ({ frames := 2, cells := 0, slots := 0, locals := 48 }) (va_Pc [.ref (h 100), .int x, .int y, .int z] (xPre (dC, dI) (wFX h cs I L A Q G J) (tysA cs) sz)) (va_Qi (fun (r : Int32) (u : CS) => ∃ i123 : Int32, ∃ i144 : Int32, ∃ i145 : Int32, ∃ i146 : Int32, ∃ a136 : Nat → Int32, ∃ g0 : Nat → Nat → Int32, ((¬ r = nI 0 ∧ rfP I x y z (R * (M + 1)) r ∧ a136 = A 136 ∧ g0 = G 0 ∧ i123 = I 123 ∧ i144 = I 144 ∧ i145 = I 145 ∧ i146 = I 146) ∨ (∃ s w i ln : Nat, s < 4 ∧ w < 3 ∧ ln ≤ 25 ∧ x = nI s ∧ y = nI w ∧ z = nI i ∧ ¬ I (220 + s) = -1 ∧ I (220 + s) = nI w ∧ I (224 + s) = nI ln ∧ i + R * (M + 1) ≤ ln ∧ ((¬ tkI (Q (228 + s)) i M R 0 ∧ r = -2 ∧ a136 = A 136 ∧ g0 = G 0 ∧ i123 = I 123 ∧ i144 = I 144 ∧ i145 = I 145 ∧ i146 = I 146) ∨ (tkI (Q (228 + s)) i M R 0 ∧ r = nI R ∧ cpI (Q (228 + s)) i M R 0 a136 g0 ∧ (∃ s2 : Nat, sp9 < s2 ∧ s2 ≤ sp9 + 25 ∧ i123 = nI s2) ∧ i144 = nI 0 ∧ i145 = nI 0 ∧ i146 = nI 0)))) ∧ u = ((va_up (va_up (va_up (va_up I 123 i123) 144 i144) 145 i145) 146 i146), L, (va_up A 136 a136), Q, (va_up G 0 g0), J)) (xB (dC, dI) (tysA cs) (va_A (wFX h cs I L A Q G J) sz) (fun u : CS => wFX h cs u.1 u.2.1 u.2.2.1 u.2.2.2.1 u.2.2.2.2.1 u.2.2.2.2.2)) (va_A (wFX h cs I L A Q G J) sz)) 0 0 (va_A (wFX h cs I L A Q G J) sz) := by
  refine Met.ofW (cc := cX9_rows) (maxL := 5) (ret := (some .int)) (by decide) rfl ?_
  intro p e s m args below meth c s₁ B hml hv
  obtain ⟨rfl, hsz, hP, hK, hD0, hN⟩ := hv
  have hx := B.exec
  have hb := B.bytes
  have hr := B.returns
  have hts := atoms_spec (ws := wsX9_rows) B.pre
  have hown : s.vm.findClass RX9 = some m.cls := findClass_of_methodNamed B.named
  have hlocks := B.notSynchronized
  subst hsz
  have hD := hD0.self (sz := s.heap.size)
  generalize hAe : va_A (wFX h cs I L A Q G J) s.heap.size = A0 at hD ⊢
  have hA : ∀ q : Nat, s.heap.size ≤ q → A0 q := fun q h => by rw [← hAe]; exact Or.inr h
  have hl := lv_entry ([.ref (h 100), .int x, .int y, .int z]) (n := 5) (Nat.le_of_ble_eq_true rfl)
  rw [lg_entry_eq]
  generalize (lg_sl ([.ref (h 100), .int x, .int y, .int z]) ++ List.replicate (5 - (lg_sl ([.ref (h 100), .int x, .int y, .int z])).length) Slot.unset).toArray = ls at hl ⊢
  have hl : lv_has ls 5 [(0, .ref (h 100)), (1, .int x), (2, .int y), (3, .int z)] := hl
  generalize hH : s.heap = H at hP ⊢
  have hS : va_S A0 s.heap H [] := by rw [← hH]; exact va_S.rf
  have hinX9 : ∀ w ∈ wsX90, w ∈ wsX9_rows := by decide +kernel
  have hinX3 : ∀ w ∈ wsX30, w ∈ wsX9_rows := by decide +kernel
  have hinX5 : ∀ w ∈ wsX50, w ∈ wsX9_rows := by decide +kernel
  have hRM : R * (M + 1) ≤ 25 := Nat.mul_le_mul hR5 (Nat.succ_le_succ hM4)
  refine lv_aload_n hx hb dX9_rows_0 rfl (lv_at hl 0 rfl) ?_
  refine lv_iload_n hx hb dX9_rows_1 rfl (lv_at hl 1 rfl) ?_
  refine lv_iload_n hx hb dX9_rows_2 rfl (lv_at hl 2 rfl) ?_
  refine lv_iload_n hx hb dX9_rows_3 rfl (lv_at hl 3 rfl) ?_
  refine lv_aload_n hx hb dX9_rows_4 rfl (lv_at hl 0 rfl) ?_
  refine va_get (D := (dC, dI)) (ci := 9) (v := .ref (h 101)) (C := RX9) (T := TX9) (N := 9) hx hb hts hinX9 hown hK hP 0 rfl rfl 0 (by decide) (hts (.fieldLink RX9 12 "MixedWords" "mix" "LMixedWords$Mix;") (by decide +kernel)) (fun _ h9 => h9) rfl dX9_rows_5 ?_
  refine va_get (D := (dC, dI)) (ci := 3) (v := .int (I 120)) (C := RX3) (T := TX3) (N := 6) hx hb hts hinX3 hown hK hP 10 rfl rfl 0 (by decide) (hts (.fieldLink RX9 147 "MixedWords$Mix" "height" "I") (by decide +kernel)) (fun _ h9 => h9) rfl dX9_rows_8 ?_
  refine xt_i (y := nI R) (hR) ?_
  refine lv_aload_n hx hb dX9_rows_11 rfl (lv_at hl 0 rfl) ?_
  refine va_get (D := (dC, dI)) (ci := 9) (v := .ref (h 101)) (C := RX9) (T := TX9) (N := 9) hx hb hts hinX9 hown hK hP 0 rfl rfl 0 (by decide) (hts (.fieldLink RX9 12 "MixedWords" "mix" "LMixedWords$Mix;") (by decide +kernel)) (fun _ h9 => h9) rfl dX9_rows_12 ?_
  refine va_get (D := (dC, dI)) (ci := 3) (v := .int (I 121)) (C := RX3) (T := TX3) (N := 6) hx hb hts hinX3 hown hK hP 10 rfl rfl 1 (by decide) (hts (.fieldLink RX9 106 "MixedWords$Mix" "width" "I") (by decide +kernel)) (fun _ h9 => h9) rfl dX9_rows_15 ?_
  refine xt_i (y := nI M) (hM) ?_
  refine lv_iconst (v := nI 1) hx hb dX9_rows_18 (by decide) ?_
  refine lv_iadd hx hb dX9_rows_19 ?_
  refine xt_i (y := nI (M + 1)) (nI_add _ _) ?_
  refine lv_imul hx hb dX9_rows_20 ?_
  refine xt_i (y := nI (R * (M + 1))) (pk_mul _ _) ?_
  refine xj_i (wc := (wFX h cs I L A Q G J)) (wr := ([] : va_W)) hP hD hS hA [0, 1, 2, 3, 4, 5, 6, 7, 8, 9, 10, 11, 12, 13, 14, 15, 16, 17, 18, 19, 20, 21, 22] [] rfl rfl (by decide +kernel) (by decide +kernel) (va_runV (As := [.int x, .int y, .int z, .int (nI (R * (M + 1)))]) (rest := []) ⟨hx, hb, hml, hown, hts⟩ (k_X9_refusalX l dC dI h cs H.size I L A Q G J x y z (R * (M + 1)) (by first | assumption | omega) (by first | assumption | omega | exact hln)) (cwV 4 hts gX9_rows_X9_refusal rfl rfl rfl (by decide +kernel) ⟨Nat.le_of_ble_eq_true rfl, Nat.le_of_ble_eq_true rfl⟩) (xpV (wc := (wFX h cs I L A Q G J)) hP hD hK hN [0, 1, 2, 3, 4, 5, 6, 7, 8, 9, 10, 11, 12, 13, 14, 15, 16, 17, 18, 19, 20, 21, 22] rfl (by decide) 0 (ci := 9) rfl rfl _) rfl rfl hl.1 rfl (lv_room (Nat.le_of_ble_eq_true rfl)) dX9_rows_21 ⟨Nat.zero_le _, Nat.zero_le _⟩) (fun r_2 u_1 H locs hw hP hD hS => ?_)
  obtain ⟨hf_3, rfl⟩ := hw
  have hP : va_P (dC, dI) vwCl (wFX h cs I L A Q G J) H := hP
  have hD : va_D A0 (wFX h cs I L A Q G J) := hD
  have hrf := hf_3
  rcases hf_3 with ⟨rfl, -⟩ | ⟨s9, v9, hs9, hv9, hxs9, hyv9, ⟨-, rfl⟩ | ⟨-, -, rfl⟩ | ⟨hr1, hr2, ⟨rfl, -⟩ | ⟨rfl, i9, ln9, hln9, hzi9, hle9, hil9⟩⟩⟩
  · skip
    refine lv_istore (lv' := [(4, .int (-1 : Int32)), (0, .ref (h 100)), (1, .int x), (2, .int y), (3, .int z)]) hx hb dX9_rows_24 hl (by decide) rfl (fun ls hl => ?_)
    refine lv_iload hx hb dX9_rows_26 (lv_at hl 0 rfl) ?_
    refine lv_if_eq (tgt := 34) hx hb dX9_rows_28 (by decide) (fun c9 => False.elim (by revert c9; decide +kernel)) (fun _ => ?_)
    refine lv_iload hx hb dX9_rows_31 (lv_at hl 0 rfl) ?_
    exact xr_i (v := (-1 : Int32)) hx hb hr hlocks hK hS dX9_rows_33 ((va_up (va_up (va_up (va_up I 123 (I 123)) 144 (I 144)) 145 (I 145)) 146 (I 146)), L, (va_up A 136 (A 136)), Q, (va_up G 0 (G 0)), J) ⟨(I 123), (I 144), (I 145), (I 146), (A 136), (G 0), (Or.inl ⟨by decide, hrf, rfl, rfl, rfl, rfl, rfl, rfl⟩), rfl⟩ hP hD
  · skip
    refine lv_istore (lv' := [(4, .int (-11 : Int32)), (0, .ref (h 100)), (1, .int x), (2, .int y), (3, .int z)]) hx hb dX9_rows_24 hl (by decide) rfl (fun ls hl => ?_)
    refine lv_iload hx hb dX9_rows_26 (lv_at hl 0 rfl) ?_
    refine lv_if_eq (tgt := 34) hx hb dX9_rows_28 (by decide) (fun c9 => False.elim (by revert c9; decide +kernel)) (fun _ => ?_)
    refine lv_iload hx hb dX9_rows_31 (lv_at hl 0 rfl) ?_
    exact xr_i (v := (-11 : Int32)) hx hb hr hlocks hK hS dX9_rows_33 ((va_up (va_up (va_up (va_up I 123 (I 123)) 144 (I 144)) 145 (I 145)) 146 (I 146)), L, (va_up A 136 (A 136)), Q, (va_up G 0 (G 0)), J) ⟨(I 123), (I 144), (I 145), (I 146), (A 136), (G 0), (Or.inl ⟨by decide, hrf, rfl, rfl, rfl, rfl, rfl, rfl⟩), rfl⟩ hP hD
  · skip
    refine lv_istore (lv' := [(4, .int (-12 : Int32)), (0, .ref (h 100)), (1, .int x), (2, .int y), (3, .int z)]) hx hb dX9_rows_24 hl (by decide) rfl (fun ls hl => ?_)
    refine lv_iload hx hb dX9_rows_26 (lv_at hl 0 rfl) ?_
    refine lv_if_eq (tgt := 34) hx hb dX9_rows_28 (by decide) (fun c9 => False.elim (by revert c9; decide +kernel)) (fun _ => ?_)
    refine lv_iload hx hb dX9_rows_31 (lv_at hl 0 rfl) ?_
    exact xr_i (v := (-12 : Int32)) hx hb hr hlocks hK hS dX9_rows_33 ((va_up (va_up (va_up (va_up I 123 (I 123)) 144 (I 144)) 145 (I 145)) 146 (I 146)), L, (va_up A 136 (A 136)), Q, (va_up G 0 (G 0)), J) ⟨(I 123), (I 144), (I 145), (I 146), (A 136), (G 0), (Or.inl ⟨by decide, hrf, rfl, rfl, rfl, rfl, rfl, rfl⟩), rfl⟩ hP hD
  · skip
    refine lv_istore (lv' := [(4, .int (-13 : Int32)), (0, .ref (h 100)), (1, .int x), (2, .int y), (3, .int z)]) hx hb dX9_rows_24 hl (by decide) rfl (fun ls hl => ?_)
    refine lv_iload hx hb dX9_rows_26 (lv_at hl 0 rfl) ?_
    refine lv_if_eq (tgt := 34) hx hb dX9_rows_28 (by decide) (fun c9 => False.elim (by revert c9; decide +kernel)) (fun _ => ?_)
    refine lv_iload hx hb dX9_rows_31 (lv_at hl 0 rfl) ?_
    exact xr_i (v := (-13 : Int32)) hx hb hr hlocks hK hS dX9_rows_33 ((va_up (va_up (va_up (va_up I 123 (I 123)) 144 (I 144)) 145 (I 145)) 146 (I 146)), L, (va_up A 136 (A 136)), Q, (va_up G 0 (G 0)), J) ⟨(I 123), (I 144), (I 145), (I 146), (A 136), (G 0), (Or.inl ⟨by decide, hrf, rfl, rfl, rfl, rfl, rfl, rfl⟩), rfl⟩ hP hD
  · skip
    rcases (show s9 = 0 ∨ s9 = 1 ∨ s9 = 2 ∨ s9 = 3 by omega) with rfl | rfl | rfl | rfl
    · skip
      rw [hxs9, hzi9] at hl
      refine lv_istore (lv' := [(4, .int (nI 0)), (0, .ref (h 100)), (1, .int (nI 0)), (2, .int y), (3, .int (nI i9))]) hx hb dX9_rows_24 hl (by decide) rfl (fun ls hl => ?_)
      refine lv_iload hx hb dX9_rows_26 (lv_at hl 0 rfl) ?_
      refine lv_if_eq (tgt := 34) hx hb dX9_rows_28 (by decide) (fun _ => ?_) (fun c9 => False.elim (by revert c9; decide +kernel))
      refine lv_aload_n hx hb dX9_rows_34 rfl (lv_at hl 1 rfl) ?_
      refine va_get (D := (dC, dI)) (ci := 9) (v := .ref (h 101)) (C := RX9) (T := TX9) (N := 9) hx hb hts hinX9 hown hK hP 0 rfl rfl 0 (by decide) (hts (.fieldLink RX9 12 "MixedWords" "mix" "LMixedWords$Mix;") (by decide +kernel)) (fun _ h9 => h9) rfl dX9_rows_35 ?_
      refine lv_aload_n hx hb dX9_rows_38 rfl (lv_at hl 1 rfl) ?_
      refine va_get (D := (dC, dI)) (ci := 9) (v := .ref (h 109)) (C := RX9) (T := TX9) (N := 9) hx hb hts hinX9 hown hK hP 0 rfl rfl 8 (by decide) (hts (.fieldLink RX9 71 "MixedWords" "sheets" "[LMixedWords$Sheet;") (by decide +kernel)) (fun _ h9 => h9) rfl dX9_rows_39 ?_
      refine lv_iload_n hx hb dX9_rows_42 rfl (lv_at hl 2 rfl) ?_
      refine xa_aald (b := h 110) hx hb hK hP 1 5 rfl rfl rfl (by omega) (by decide) (if_pos (by omega)) dX9_rows_43 ?_
      refine va_get (D := (dC, dI)) (ci := 5) (v := .ref (h 228)) (C := RX5) (T := TX5) (N := 3) hx hb hts hinX5 hown hK hP 2 rfl rfl 2 (by decide) (hts (.fieldLink RX9 290 "MixedWords$Sheet" "items" "[J") (by decide +kernel)) (fun _ h9 => h9) rfl dX9_rows_44 ?_
      refine lv_iload_n hx hb dX9_rows_47 rfl (lv_at hl 4 rfl) ?_
      refine xj_i (wc := (wTk0 h cs I L A Q G J)) (wr := [(h 100, .inr (9, [.ref (h 101), .ref (h 102), .ref (h 103), .ref (h 104), .ref (h 105), .ref (h 106), .ref (h 107), .ref (h 108), .ref (h 109)])), (h 109, .inl (cs 5, 4, .inr (.inr (.inr (.inr (fun i => if i < 4 then some (h (i + 110)) else none)))))), (h 110, .inr (5, [.int (I 220), .int (I 224), .ref (h 228)])), (h 111, .inr (5, [.int (I 221), .int (I 225), .ref (h 229)])), (h 229, .inl (cs 1, 25, .inr (.inl (Q 229)))), (h 112, .inr (5, [.int (I 222), .int (I 226), .ref (h 230)])), (h 230, .inl (cs 1, 25, .inr (.inl (Q 230)))), (h 113, .inr (5, [.int (I 223), .int (I 227), .ref (h 231)])), (h 231, .inl (cs 1, 25, .inr (.inl (Q 231)))), (h 102, .inr (0, [.ref (h 101), .ref (h 140), .ref (h 141), .ref (h 142), .ref (h 143), .int (I 144), .int (I 145), .int (I 146)])), (h 140, .inl (cs 0, 40, .inl (A 140))), (h 141, .inl (cs 0, 40, .inl (A 141))), (h 142, .inl (cs 0, 40, .inl (A 142))), (h 143, .inl (cs 0, 40, .inl (A 143)))]) hP hD hS hA [10, 11, 12, 13, 14, 15, 16, 17, 3] [0, 1, 2, 4, 5, 6, 7, 8, 9, 18, 19, 20, 21, 22] rfl rfl (by decide +kernel) (by decide +kernel) (va_runV (As := [.ref (h 228), .int (nI i9)]) (rest := []) ⟨hx, hb, hml, hown, hts⟩ (k_X3_takes0 l dC dI h cs H.size I L A Q G J i9 R M (by first | assumption | omega) hR (by first | assumption | omega | exact hR1) (by first | assumption | omega | exact hR5) hM (by first | assumption | omega | exact hM1) (by first | assumption | omega | exact hM4)) (cwV 2 hts gX9_rows_X3_takes rfl rfl rfl (by decide +kernel) ⟨Nat.le_of_ble_eq_true rfl, Nat.le_of_ble_eq_true rfl⟩) (xpV (wc := (wTk0 h cs I L A Q G J)) hP hD hK hN [10, 11, 12, 13, 14, 15, 16, 17, 3] rfl (by decide) 10 (ci := 3) rfl rfl _) rfl rfl hl.1 rfl (lv_room (Nat.le_of_ble_eq_true rfl)) dX9_rows_48 ⟨Nat.zero_le _, Nat.zero_le _⟩) (fun r_5 u_4 H locs hw hP hD hS => ?_)
      obtain ⟨hf_6, rfl⟩ := hw
      have hP : va_P (dC, dI) vwCl (wFX h cs I L A Q G J) H := xP_sub hP [0, 1, 2, 22, 3, 4, 5, 6, 7, 8, 14, 15, 16, 17, 18, 19, 20, 21, 9, 10, 11, 12, 13] rfl
      have hD : va_D A0 (wFX h cs I L A Q G J) := hD.sub [0, 1, 2, 22, 3, 4, 5, 6, 7, 8, 14, 15, 16, 17, 18, 19, 20, 21, 9, 10, 11, 12, 13] (by decide +kernel) rfl
      rcases (show (r_5 = nI 1 ∧ tkI (Q 228) i9 M R 0) ∨ (r_5 = nI 0 ∧ ¬ tkI (Q 228) i9 M R 0) from hf_6) with ⟨rfl, htk_7⟩ | ⟨rfl, htk_7⟩
      · skip
        refine lv_if_ne (tgt := 57) hx hb dX9_rows_51 (by decide) (fun _ => ?_) (fun c9 => False.elim (by revert c9; decide +kernel))
        refine lv_aload_n hx hb dX9_rows_57 rfl (lv_at hl 1 rfl) ?_
        refine va_get (D := (dC, dI)) (ci := 9) (v := .ref (h 101)) (C := RX9) (T := TX9) (N := 9) hx hb hts hinX9 hown hK hP 0 rfl rfl 0 (by decide) (hts (.fieldLink RX9 12 "MixedWords" "mix" "LMixedWords$Mix;") (by decide +kernel)) (fun _ h9 => h9) rfl dX9_rows_58 ?_
        refine lv_aload_n hx hb dX9_rows_61 rfl (lv_at hl 1 rfl) ?_
        refine va_get (D := (dC, dI)) (ci := 9) (v := .ref (h 109)) (C := RX9) (T := TX9) (N := 9) hx hb hts hinX9 hown hK hP 0 rfl rfl 8 (by decide) (hts (.fieldLink RX9 71 "MixedWords" "sheets" "[LMixedWords$Sheet;") (by decide +kernel)) (fun _ h9 => h9) rfl dX9_rows_62 ?_
        refine lv_iload_n hx hb dX9_rows_65 rfl (lv_at hl 2 rfl) ?_
        refine xa_aald (b := h 110) hx hb hK hP 1 5 rfl rfl rfl (by omega) (by decide) (if_pos (by omega)) dX9_rows_66 ?_
        refine va_get (D := (dC, dI)) (ci := 5) (v := .ref (h 228)) (C := RX5) (T := TX5) (N := 3) hx hb hts hinX5 hown hK hP 2 rfl rfl 2 (by decide) (hts (.fieldLink RX9 290 "MixedWords$Sheet" "items" "[J") (by decide +kernel)) (fun _ h9 => h9) rfl dX9_rows_67 ?_
        refine lv_iload_n hx hb dX9_rows_70 rfl (lv_at hl 4 rfl) ?_
        refine xj_v (wc := (wTk0 h cs I L A Q G J)) (wr := [(h 100, .inr (9, [.ref (h 101), .ref (h 102), .ref (h 103), .ref (h 104), .ref (h 105), .ref (h 106), .ref (h 107), .ref (h 108), .ref (h 109)])), (h 109, .inl (cs 5, 4, .inr (.inr (.inr (.inr (fun i => if i < 4 then some (h (i + 110)) else none)))))), (h 110, .inr (5, [.int (I 220), .int (I 224), .ref (h 228)])), (h 111, .inr (5, [.int (I 221), .int (I 225), .ref (h 229)])), (h 229, .inl (cs 1, 25, .inr (.inl (Q 229)))), (h 112, .inr (5, [.int (I 222), .int (I 226), .ref (h 230)])), (h 230, .inl (cs 1, 25, .inr (.inl (Q 230)))), (h 113, .inr (5, [.int (I 223), .int (I 227), .ref (h 231)])), (h 231, .inl (cs 1, 25, .inr (.inl (Q 231)))), (h 102, .inr (0, [.ref (h 101), .ref (h 140), .ref (h 141), .ref (h 142), .ref (h 143), .int (I 144), .int (I 145), .int (I 146)])), (h 140, .inl (cs 0, 40, .inl (A 140))), (h 141, .inl (cs 0, 40, .inl (A 141))), (h 142, .inl (cs 0, 40, .inl (A 142))), (h 143, .inl (cs 0, 40, .inl (A 143)))]) hP hD hS hA [10, 11, 12, 13, 14, 15, 16, 17, 3] [0, 1, 2, 4, 5, 6, 7, 8, 9, 18, 19, 20, 21, 22] rfl rfl (by decide +kernel) (by decide +kernel) (va_runV (As := [.ref (h 228), .int (nI i9)]) (rest := []) ⟨hx, hb, hml, hown, hts⟩ (k_X3_copy0 l dC dI h cs H.size I L A Q G J i9 R M sp9 (by first | assumption | omega) hR (by first | assumption | omega | exact hR1) (by first | assumption | omega | exact hR5) hM (by first | assumption | omega | exact hM1) (by first | assumption | omega | exact hM4) hst (by first | assumption | omega | exact hst2)) (cwV 2 hts gX9_rows_X3_copy rfl rfl rfl (by decide +kernel) ⟨Nat.le_of_ble_eq_true rfl, Nat.le_of_ble_eq_true rfl⟩) (xpV (wc := (wTk0 h cs I L A Q G J)) hP hD hK hN [10, 11, 12, 13, 14, 15, 16, 17, 3] rfl (by decide) 10 (ci := 3) rfl rfl _) rfl rfl hl.1 rfl (lv_room (Nat.le_of_ble_eq_true rfl)) dX9_rows_71 ⟨Nat.zero_le _, Nat.zero_le _⟩) (fun u_8 H locs hw hP hD hS => ?_)
        obtain ⟨i123_10, a136_11, g0_12, hf_13, rfl⟩ := hw
        have hP : va_P (dC, dI) vwCl (wFX h cs (va_up I 123 i123_10) L (va_up A 136 a136_11) Q (va_up G 0 g0_12) J) H := xP_sub hP [0, 1, 2, 22, 3, 4, 5, 6, 7, 8, 14, 15, 16, 17, 18, 19, 20, 21, 9, 10, 11, 12, 13] rfl
        have hD : va_D A0 (wFX h cs (va_up I 123 i123_10) L (va_up A 136 a136_11) Q (va_up G 0 g0_12) J) := hD.sub [0, 1, 2, 22, 3, 4, 5, 6, 7, 8, 14, 15, 16, 17, 18, 19, 20, 21, 9, 10, 11, 12, 13] (by decide +kernel) rfl
        obtain ⟨hcp_14, s2_15, hb_16, hb_17, rfl⟩ := hf_13
        refine lv_aload_n hx hb dX9_rows_74 rfl (lv_at hl 1 rfl) ?_
        refine va_get (D := (dC, dI)) (ci := 9) (v := .ref (h 102)) (C := RX9) (T := TX9) (N := 9) hx hb hts hinX9 hown hK hP 0 rfl rfl 1 (by decide) (hts (.fieldLink RX9 21 "MixedWords" "acts" "LMixedWords$Acts;") (by decide +kernel)) (fun _ h9 => h9) rfl dX9_rows_75 ?_
        refine xj_v (wc := (wAct0 h cs (va_up I 123 (nI s2_15)) L (va_up A 136 a136_11) Q (va_up G 0 g0_12) J)) (wr := [(h 100, .inr (9, [.ref (h 101), .ref (h 102), .ref (h 103), .ref (h 104), .ref (h 105), .ref (h 106), .ref (h 107), .ref (h 108), .ref (h 109)])), (h 109, .inl (cs 5, 4, .inr (.inr (.inr (.inr (fun i => if i < 4 then some (h (i + 110)) else none)))))), (h 110, .inr (5, [.int (I 220), .int (I 224), .ref (h 228)])), (h 228, .inl (cs 1, 25, .inr (.inl (Q 228)))), (h 111, .inr (5, [.int (I 221), .int (I 225), .ref (h 229)])), (h 229, .inl (cs 1, 25, .inr (.inl (Q 229)))), (h 112, .inr (5, [.int (I 222), .int (I 226), .ref (h 230)])), (h 230, .inl (cs 1, 25, .inr (.inl (Q 230)))), (h 113, .inr (5, [.int (I 223), .int (I 227), .ref (h 231)])), (h 231, .inl (cs 1, 25, .inr (.inl (Q 231)))), (h 101, .inr (3, [.int (I 120), .int (I 121), .int (I 122), .int (nI s2_15), .ref (h 130), .ref (h 136)])), (h 130, .inl (cs 3, 5, .inr (.inr (.inr (.inr (fun i => if i < 5 then some (h (i + 131)) else none)))))), (h 131, .inl (cs 0, 4, .inl (g0_12 0))), (h 132, .inl (cs 0, 4, .inl (g0_12 1))), (h 133, .inl (cs 0, 4, .inl (g0_12 2))), (h 134, .inl (cs 0, 4, .inl (g0_12 3))), (h 135, .inl (cs 0, 4, .inl (g0_12 4))), (h 136, .inl (cs 0, 5, .inl a136_11))]) hP hD hS hA [18, 19, 20, 21, 22] [0, 1, 2, 3, 4, 5, 6, 7, 8, 9, 10, 11, 12, 13, 14, 15, 16, 17] rfl rfl (by decide +kernel) (by decide +kernel) (va_runV (As := []) (rest := []) ⟨hx, hb, hml, hown, hts⟩ (k_X0_forget l dC dI h cs H.size (va_up I 123 (nI s2_15)) L (va_up A 136 a136_11) Q (va_up G 0 g0_12) J ) (cwV 0 hts gX9_rows_X0_forget rfl rfl rfl (by decide +kernel) ⟨Nat.le_of_ble_eq_true rfl, Nat.le_of_ble_eq_true rfl⟩) (xpV (wc := (wAct0 h cs (va_up I 123 (nI s2_15)) L (va_up A 136 a136_11) Q (va_up G 0 g0_12) J)) hP hD hK hN [18, 19, 20, 21, 22] rfl (by decide) 18 (ci := 0) rfl rfl _) rfl rfl hl.1 rfl (lv_room (Nat.le_of_ble_eq_true rfl)) dX9_rows_78 ⟨Nat.zero_le _, Nat.zero_le _⟩) (fun u_18 H locs hw hP hD hS => ?_)
        obtain ⟨x144_20, x145_21, x146_22, hf_23, rfl⟩ := hw
        have hP : va_P (dC, dI) vwCl (wFX h cs (va_up (va_up (va_up (va_up I 123 (nI s2_15)) 144 x144_20) 145 x145_21) 146 x146_22) L (va_up A 136 a136_11) Q (va_up G 0 g0_12) J) H := hP
        have hD : va_D A0 (wFX h cs (va_up (va_up (va_up (va_up I 123 (nI s2_15)) 144 x144_20) 145 x145_21) 146 x146_22) L (va_up A 136 a136_11) Q (va_up G 0 g0_12) J) := hD
        obtain ⟨rfl, rfl, rfl⟩ := hf_23
        refine lv_aload_n hx hb dX9_rows_81 rfl (lv_at hl 1 rfl) ?_
        refine va_get (D := (dC, dI)) (ci := 9) (v := .ref (h 101)) (C := RX9) (T := TX9) (N := 9) hx hb hts hinX9 hown hK hP 0 rfl rfl 0 (by decide) (hts (.fieldLink RX9 12 "MixedWords" "mix" "LMixedWords$Mix;") (by decide +kernel)) (fun _ h9 => h9) rfl dX9_rows_82 ?_
        refine va_get (D := (dC, dI)) (ci := 3) (v := .int (I 120)) (C := RX3) (T := TX3) (N := 6) hx hb hts hinX3 hown hK hP 10 rfl rfl 0 (by decide) (hts (.fieldLink RX9 147 "MixedWords$Mix" "height" "I") (by decide +kernel)) (fun _ h9 => h9) rfl dX9_rows_85 ?_
        refine xt_i (y := nI R) (hR) ?_
        exact xr_i (v := (nI R)) hx hb hr hlocks hK hS dX9_rows_88 ((va_up (va_up (va_up (va_up I 123 (nI s2_15)) 144 (nI 0)) 145 (nI 0)) 146 (nI 0)), L, (va_up A 136 a136_11), Q, (va_up G 0 g0_12), J) ⟨(nI s2_15), (nI 0), (nI 0), (nI 0), a136_11, g0_12, (Or.inr ⟨0, v9, i9, ln9, by omega, hv9, hln9, hxs9, hyv9, hzi9, hr1, hr2, hle9, hil9, Or.inr ⟨htk_7, rfl, hcp_14, ⟨s2_15, hb_16, hb_17, rfl⟩, rfl, rfl, rfl⟩⟩), rfl⟩ hP hD
      · skip
        refine lv_if_ne (tgt := 57) hx hb dX9_rows_51 (by decide) (fun c9 => False.elim (by revert c9; decide +kernel)) (fun _ => ?_)
        refine lv_bipush (v := (-2)) hx hb dX9_rows_54 (by decide) ?_
        exact xr_i (v := (-2)) hx hb hr hlocks hK hS dX9_rows_56 ((va_up (va_up (va_up (va_up I 123 (I 123)) 144 (I 144)) 145 (I 145)) 146 (I 146)), L, (va_up A 136 (A 136)), Q, (va_up G 0 (G 0)), J) ⟨(I 123), (I 144), (I 145), (I 146), (A 136), (G 0), (Or.inr ⟨0, v9, i9, ln9, by omega, hv9, hln9, hxs9, hyv9, hzi9, hr1, hr2, hle9, hil9, Or.inl ⟨htk_7, rfl, rfl, rfl, rfl, rfl, rfl, rfl⟩⟩), rfl⟩ hP hD
    · skip
      rw [hxs9, hzi9] at hl
      refine lv_istore (lv' := [(4, .int (nI 0)), (0, .ref (h 100)), (1, .int (nI 1)), (2, .int y), (3, .int (nI i9))]) hx hb dX9_rows_24 hl (by decide) rfl (fun ls hl => ?_)
      refine lv_iload hx hb dX9_rows_26 (lv_at hl 0 rfl) ?_
      refine lv_if_eq (tgt := 34) hx hb dX9_rows_28 (by decide) (fun _ => ?_) (fun c9 => False.elim (by revert c9; decide +kernel))
      refine lv_aload_n hx hb dX9_rows_34 rfl (lv_at hl 1 rfl) ?_
      refine va_get (D := (dC, dI)) (ci := 9) (v := .ref (h 101)) (C := RX9) (T := TX9) (N := 9) hx hb hts hinX9 hown hK hP 0 rfl rfl 0 (by decide) (hts (.fieldLink RX9 12 "MixedWords" "mix" "LMixedWords$Mix;") (by decide +kernel)) (fun _ h9 => h9) rfl dX9_rows_35 ?_
      refine lv_aload_n hx hb dX9_rows_38 rfl (lv_at hl 1 rfl) ?_
      refine va_get (D := (dC, dI)) (ci := 9) (v := .ref (h 109)) (C := RX9) (T := TX9) (N := 9) hx hb hts hinX9 hown hK hP 0 rfl rfl 8 (by decide) (hts (.fieldLink RX9 71 "MixedWords" "sheets" "[LMixedWords$Sheet;") (by decide +kernel)) (fun _ h9 => h9) rfl dX9_rows_39 ?_
      refine lv_iload_n hx hb dX9_rows_42 rfl (lv_at hl 2 rfl) ?_
      refine xa_aald (b := h 111) hx hb hK hP 1 5 rfl rfl rfl (by omega) (by decide) (if_pos (by omega)) dX9_rows_43 ?_
      refine va_get (D := (dC, dI)) (ci := 5) (v := .ref (h 229)) (C := RX5) (T := TX5) (N := 3) hx hb hts hinX5 hown hK hP 4 rfl rfl 2 (by decide) (hts (.fieldLink RX9 290 "MixedWords$Sheet" "items" "[J") (by decide +kernel)) (fun _ h9 => h9) rfl dX9_rows_44 ?_
      refine lv_iload_n hx hb dX9_rows_47 rfl (lv_at hl 4 rfl) ?_
      refine xj_i (wc := (wTk1 h cs I L A Q G J)) (wr := [(h 100, .inr (9, [.ref (h 101), .ref (h 102), .ref (h 103), .ref (h 104), .ref (h 105), .ref (h 106), .ref (h 107), .ref (h 108), .ref (h 109)])), (h 109, .inl (cs 5, 4, .inr (.inr (.inr (.inr (fun i => if i < 4 then some (h (i + 110)) else none)))))), (h 110, .inr (5, [.int (I 220), .int (I 224), .ref (h 228)])), (h 228, .inl (cs 1, 25, .inr (.inl (Q 228)))), (h 111, .inr (5, [.int (I 221), .int (I 225), .ref (h 229)])), (h 112, .inr (5, [.int (I 222), .int (I 226), .ref (h 230)])), (h 230, .inl (cs 1, 25, .inr (.inl (Q 230)))), (h 113, .inr (5, [.int (I 223), .int (I 227), .ref (h 231)])), (h 231, .inl (cs 1, 25, .inr (.inl (Q 231)))), (h 102, .inr (0, [.ref (h 101), .ref (h 140), .ref (h 141), .ref (h 142), .ref (h 143), .int (I 144), .int (I 145), .int (I 146)])), (h 140, .inl (cs 0, 40, .inl (A 140))), (h 141, .inl (cs 0, 40, .inl (A 141))), (h 142, .inl (cs 0, 40, .inl (A 142))), (h 143, .inl (cs 0, 40, .inl (A 143)))]) hP hD hS hA [10, 11, 12, 13, 14, 15, 16, 17, 5] [0, 1, 2, 3, 4, 6, 7, 8, 9, 18, 19, 20, 21, 22] rfl rfl (by decide +kernel) (by decide +kernel) (va_runV (As := [.ref (h 229), .int (nI i9)]) (rest := []) ⟨hx, hb, hml, hown, hts⟩ (k_X3_takes1 l dC dI h cs H.size I L A Q G J i9 R M (by first | assumption | omega) hR (by first | assumption | omega | exact hR1) (by first | assumption | omega | exact hR5) hM (by first | assumption | omega | exact hM1) (by first | assumption | omega | exact hM4)) (cwV 2 hts gX9_rows_X3_takes rfl rfl rfl (by decide +kernel) ⟨Nat.le_of_ble_eq_true rfl, Nat.le_of_ble_eq_true rfl⟩) (xpV (wc := (wTk1 h cs I L A Q G J)) hP hD hK hN [10, 11, 12, 13, 14, 15, 16, 17, 5] rfl (by decide) 10 (ci := 3) rfl rfl _) rfl rfl hl.1 rfl (lv_room (Nat.le_of_ble_eq_true rfl)) dX9_rows_48 ⟨Nat.zero_le _, Nat.zero_le _⟩) (fun r_25 u_24 H locs hw hP hD hS => ?_)
      obtain ⟨hf_26, rfl⟩ := hw
      have hP : va_P (dC, dI) vwCl (wFX h cs I L A Q G J) H := xP_sub hP [0, 1, 2, 3, 4, 22, 5, 6, 7, 8, 14, 15, 16, 17, 18, 19, 20, 21, 9, 10, 11, 12, 13] rfl
      have hD : va_D A0 (wFX h cs I L A Q G J) := hD.sub [0, 1, 2, 3, 4, 22, 5, 6, 7, 8, 14, 15, 16, 17, 18, 19, 20, 21, 9, 10, 11, 12, 13] (by decide +kernel) rfl
      rcases (show (r_25 = nI 1 ∧ tkI (Q 229) i9 M R 0) ∨ (r_25 = nI 0 ∧ ¬ tkI (Q 229) i9 M R 0) from hf_26) with ⟨rfl, htk_27⟩ | ⟨rfl, htk_27⟩
      · skip
        refine lv_if_ne (tgt := 57) hx hb dX9_rows_51 (by decide) (fun _ => ?_) (fun c9 => False.elim (by revert c9; decide +kernel))
        refine lv_aload_n hx hb dX9_rows_57 rfl (lv_at hl 1 rfl) ?_
        refine va_get (D := (dC, dI)) (ci := 9) (v := .ref (h 101)) (C := RX9) (T := TX9) (N := 9) hx hb hts hinX9 hown hK hP 0 rfl rfl 0 (by decide) (hts (.fieldLink RX9 12 "MixedWords" "mix" "LMixedWords$Mix;") (by decide +kernel)) (fun _ h9 => h9) rfl dX9_rows_58 ?_
        refine lv_aload_n hx hb dX9_rows_61 rfl (lv_at hl 1 rfl) ?_
        refine va_get (D := (dC, dI)) (ci := 9) (v := .ref (h 109)) (C := RX9) (T := TX9) (N := 9) hx hb hts hinX9 hown hK hP 0 rfl rfl 8 (by decide) (hts (.fieldLink RX9 71 "MixedWords" "sheets" "[LMixedWords$Sheet;") (by decide +kernel)) (fun _ h9 => h9) rfl dX9_rows_62 ?_
        refine lv_iload_n hx hb dX9_rows_65 rfl (lv_at hl 2 rfl) ?_
        refine xa_aald (b := h 111) hx hb hK hP 1 5 rfl rfl rfl (by omega) (by decide) (if_pos (by omega)) dX9_rows_66 ?_
        refine va_get (D := (dC, dI)) (ci := 5) (v := .ref (h 229)) (C := RX5) (T := TX5) (N := 3) hx hb hts hinX5 hown hK hP 4 rfl rfl 2 (by decide) (hts (.fieldLink RX9 290 "MixedWords$Sheet" "items" "[J") (by decide +kernel)) (fun _ h9 => h9) rfl dX9_rows_67 ?_
        refine lv_iload_n hx hb dX9_rows_70 rfl (lv_at hl 4 rfl) ?_
        refine xj_v (wc := (wTk1 h cs I L A Q G J)) (wr := [(h 100, .inr (9, [.ref (h 101), .ref (h 102), .ref (h 103), .ref (h 104), .ref (h 105), .ref (h 106), .ref (h 107), .ref (h 108), .ref (h 109)])), (h 109, .inl (cs 5, 4, .inr (.inr (.inr (.inr (fun i => if i < 4 then some (h (i + 110)) else none)))))), (h 110, .inr (5, [.int (I 220), .int (I 224), .ref (h 228)])), (h 228, .inl (cs 1, 25, .inr (.inl (Q 228)))), (h 111, .inr (5, [.int (I 221), .int (I 225), .ref (h 229)])), (h 112, .inr (5, [.int (I 222), .int (I 226), .ref (h 230)])), (h 230, .inl (cs 1, 25, .inr (.inl (Q 230)))), (h 113, .inr (5, [.int (I 223), .int (I 227), .ref (h 231)])), (h 231, .inl (cs 1, 25, .inr (.inl (Q 231)))), (h 102, .inr (0, [.ref (h 101), .ref (h 140), .ref (h 141), .ref (h 142), .ref (h 143), .int (I 144), .int (I 145), .int (I 146)])), (h 140, .inl (cs 0, 40, .inl (A 140))), (h 141, .inl (cs 0, 40, .inl (A 141))), (h 142, .inl (cs 0, 40, .inl (A 142))), (h 143, .inl (cs 0, 40, .inl (A 143)))]) hP hD hS hA [10, 11, 12, 13, 14, 15, 16, 17, 5] [0, 1, 2, 3, 4, 6, 7, 8, 9, 18, 19, 20, 21, 22] rfl rfl (by decide +kernel) (by decide +kernel) (va_runV (As := [.ref (h 229), .int (nI i9)]) (rest := []) ⟨hx, hb, hml, hown, hts⟩ (k_X3_copy1 l dC dI h cs H.size I L A Q G J i9 R M sp9 (by first | assumption | omega) hR (by first | assumption | omega | exact hR1) (by first | assumption | omega | exact hR5) hM (by first | assumption | omega | exact hM1) (by first | assumption | omega | exact hM4) hst (by first | assumption | omega | exact hst2)) (cwV 2 hts gX9_rows_X3_copy rfl rfl rfl (by decide +kernel) ⟨Nat.le_of_ble_eq_true rfl, Nat.le_of_ble_eq_true rfl⟩) (xpV (wc := (wTk1 h cs I L A Q G J)) hP hD hK hN [10, 11, 12, 13, 14, 15, 16, 17, 5] rfl (by decide) 10 (ci := 3) rfl rfl _) rfl rfl hl.1 rfl (lv_room (Nat.le_of_ble_eq_true rfl)) dX9_rows_71 ⟨Nat.zero_le _, Nat.zero_le _⟩) (fun u_28 H locs hw hP hD hS => ?_)
        obtain ⟨i123_30, a136_31, g0_32, hf_33, rfl⟩ := hw
        have hP : va_P (dC, dI) vwCl (wFX h cs (va_up I 123 i123_30) L (va_up A 136 a136_31) Q (va_up G 0 g0_32) J) H := xP_sub hP [0, 1, 2, 3, 4, 22, 5, 6, 7, 8, 14, 15, 16, 17, 18, 19, 20, 21, 9, 10, 11, 12, 13] rfl
        have hD : va_D A0 (wFX h cs (va_up I 123 i123_30) L (va_up A 136 a136_31) Q (va_up G 0 g0_32) J) := hD.sub [0, 1, 2, 3, 4, 22, 5, 6, 7, 8, 14, 15, 16, 17, 18, 19, 20, 21, 9, 10, 11, 12, 13] (by decide +kernel) rfl
        obtain ⟨hcp_34, s2_35, hb_36, hb_37, rfl⟩ := hf_33
        refine lv_aload_n hx hb dX9_rows_74 rfl (lv_at hl 1 rfl) ?_
        refine va_get (D := (dC, dI)) (ci := 9) (v := .ref (h 102)) (C := RX9) (T := TX9) (N := 9) hx hb hts hinX9 hown hK hP 0 rfl rfl 1 (by decide) (hts (.fieldLink RX9 21 "MixedWords" "acts" "LMixedWords$Acts;") (by decide +kernel)) (fun _ h9 => h9) rfl dX9_rows_75 ?_
        refine xj_v (wc := (wAct0 h cs (va_up I 123 (nI s2_35)) L (va_up A 136 a136_31) Q (va_up G 0 g0_32) J)) (wr := [(h 100, .inr (9, [.ref (h 101), .ref (h 102), .ref (h 103), .ref (h 104), .ref (h 105), .ref (h 106), .ref (h 107), .ref (h 108), .ref (h 109)])), (h 109, .inl (cs 5, 4, .inr (.inr (.inr (.inr (fun i => if i < 4 then some (h (i + 110)) else none)))))), (h 110, .inr (5, [.int (I 220), .int (I 224), .ref (h 228)])), (h 228, .inl (cs 1, 25, .inr (.inl (Q 228)))), (h 111, .inr (5, [.int (I 221), .int (I 225), .ref (h 229)])), (h 229, .inl (cs 1, 25, .inr (.inl (Q 229)))), (h 112, .inr (5, [.int (I 222), .int (I 226), .ref (h 230)])), (h 230, .inl (cs 1, 25, .inr (.inl (Q 230)))), (h 113, .inr (5, [.int (I 223), .int (I 227), .ref (h 231)])), (h 231, .inl (cs 1, 25, .inr (.inl (Q 231)))), (h 101, .inr (3, [.int (I 120), .int (I 121), .int (I 122), .int (nI s2_35), .ref (h 130), .ref (h 136)])), (h 130, .inl (cs 3, 5, .inr (.inr (.inr (.inr (fun i => if i < 5 then some (h (i + 131)) else none)))))), (h 131, .inl (cs 0, 4, .inl (g0_32 0))), (h 132, .inl (cs 0, 4, .inl (g0_32 1))), (h 133, .inl (cs 0, 4, .inl (g0_32 2))), (h 134, .inl (cs 0, 4, .inl (g0_32 3))), (h 135, .inl (cs 0, 4, .inl (g0_32 4))), (h 136, .inl (cs 0, 5, .inl a136_31))]) hP hD hS hA [18, 19, 20, 21, 22] [0, 1, 2, 3, 4, 5, 6, 7, 8, 9, 10, 11, 12, 13, 14, 15, 16, 17] rfl rfl (by decide +kernel) (by decide +kernel) (va_runV (As := []) (rest := []) ⟨hx, hb, hml, hown, hts⟩ (k_X0_forget l dC dI h cs H.size (va_up I 123 (nI s2_35)) L (va_up A 136 a136_31) Q (va_up G 0 g0_32) J ) (cwV 0 hts gX9_rows_X0_forget rfl rfl rfl (by decide +kernel) ⟨Nat.le_of_ble_eq_true rfl, Nat.le_of_ble_eq_true rfl⟩) (xpV (wc := (wAct0 h cs (va_up I 123 (nI s2_35)) L (va_up A 136 a136_31) Q (va_up G 0 g0_32) J)) hP hD hK hN [18, 19, 20, 21, 22] rfl (by decide) 18 (ci := 0) rfl rfl _) rfl rfl hl.1 rfl (lv_room (Nat.le_of_ble_eq_true rfl)) dX9_rows_78 ⟨Nat.zero_le _, Nat.zero_le _⟩) (fun u_38 H locs hw hP hD hS => ?_)
        obtain ⟨x144_40, x145_41, x146_42, hf_43, rfl⟩ := hw
        have hP : va_P (dC, dI) vwCl (wFX h cs (va_up (va_up (va_up (va_up I 123 (nI s2_35)) 144 x144_40) 145 x145_41) 146 x146_42) L (va_up A 136 a136_31) Q (va_up G 0 g0_32) J) H := hP
        have hD : va_D A0 (wFX h cs (va_up (va_up (va_up (va_up I 123 (nI s2_35)) 144 x144_40) 145 x145_41) 146 x146_42) L (va_up A 136 a136_31) Q (va_up G 0 g0_32) J) := hD
        obtain ⟨rfl, rfl, rfl⟩ := hf_43
        refine lv_aload_n hx hb dX9_rows_81 rfl (lv_at hl 1 rfl) ?_
        refine va_get (D := (dC, dI)) (ci := 9) (v := .ref (h 101)) (C := RX9) (T := TX9) (N := 9) hx hb hts hinX9 hown hK hP 0 rfl rfl 0 (by decide) (hts (.fieldLink RX9 12 "MixedWords" "mix" "LMixedWords$Mix;") (by decide +kernel)) (fun _ h9 => h9) rfl dX9_rows_82 ?_
        refine va_get (D := (dC, dI)) (ci := 3) (v := .int (I 120)) (C := RX3) (T := TX3) (N := 6) hx hb hts hinX3 hown hK hP 10 rfl rfl 0 (by decide) (hts (.fieldLink RX9 147 "MixedWords$Mix" "height" "I") (by decide +kernel)) (fun _ h9 => h9) rfl dX9_rows_85 ?_
        refine xt_i (y := nI R) (hR) ?_
        exact xr_i (v := (nI R)) hx hb hr hlocks hK hS dX9_rows_88 ((va_up (va_up (va_up (va_up I 123 (nI s2_35)) 144 (nI 0)) 145 (nI 0)) 146 (nI 0)), L, (va_up A 136 a136_31), Q, (va_up G 0 g0_32), J) ⟨(nI s2_35), (nI 0), (nI 0), (nI 0), a136_31, g0_32, (Or.inr ⟨1, v9, i9, ln9, by omega, hv9, hln9, hxs9, hyv9, hzi9, hr1, hr2, hle9, hil9, Or.inr ⟨htk_27, rfl, hcp_34, ⟨s2_35, hb_36, hb_37, rfl⟩, rfl, rfl, rfl⟩⟩), rfl⟩ hP hD
      · skip
        refine lv_if_ne (tgt := 57) hx hb dX9_rows_51 (by decide) (fun c9 => False.elim (by revert c9; decide +kernel)) (fun _ => ?_)
        refine lv_bipush (v := (-2)) hx hb dX9_rows_54 (by decide) ?_
        exact xr_i (v := (-2)) hx hb hr hlocks hK hS dX9_rows_56 ((va_up (va_up (va_up (va_up I 123 (I 123)) 144 (I 144)) 145 (I 145)) 146 (I 146)), L, (va_up A 136 (A 136)), Q, (va_up G 0 (G 0)), J) ⟨(I 123), (I 144), (I 145), (I 146), (A 136), (G 0), (Or.inr ⟨1, v9, i9, ln9, by omega, hv9, hln9, hxs9, hyv9, hzi9, hr1, hr2, hle9, hil9, Or.inl ⟨htk_27, rfl, rfl, rfl, rfl, rfl, rfl, rfl⟩⟩), rfl⟩ hP hD
    · skip
      rw [hxs9, hzi9] at hl
      refine lv_istore (lv' := [(4, .int (nI 0)), (0, .ref (h 100)), (1, .int (nI 2)), (2, .int y), (3, .int (nI i9))]) hx hb dX9_rows_24 hl (by decide) rfl (fun ls hl => ?_)
      refine lv_iload hx hb dX9_rows_26 (lv_at hl 0 rfl) ?_
      refine lv_if_eq (tgt := 34) hx hb dX9_rows_28 (by decide) (fun _ => ?_) (fun c9 => False.elim (by revert c9; decide +kernel))
      refine lv_aload_n hx hb dX9_rows_34 rfl (lv_at hl 1 rfl) ?_
      refine va_get (D := (dC, dI)) (ci := 9) (v := .ref (h 101)) (C := RX9) (T := TX9) (N := 9) hx hb hts hinX9 hown hK hP 0 rfl rfl 0 (by decide) (hts (.fieldLink RX9 12 "MixedWords" "mix" "LMixedWords$Mix;") (by decide +kernel)) (fun _ h9 => h9) rfl dX9_rows_35 ?_
      refine lv_aload_n hx hb dX9_rows_38 rfl (lv_at hl 1 rfl) ?_
      refine va_get (D := (dC, dI)) (ci := 9) (v := .ref (h 109)) (C := RX9) (T := TX9) (N := 9) hx hb hts hinX9 hown hK hP 0 rfl rfl 8 (by decide) (hts (.fieldLink RX9 71 "MixedWords" "sheets" "[LMixedWords$Sheet;") (by decide +kernel)) (fun _ h9 => h9) rfl dX9_rows_39 ?_
      refine lv_iload_n hx hb dX9_rows_42 rfl (lv_at hl 2 rfl) ?_
      refine xa_aald (b := h 112) hx hb hK hP 1 5 rfl rfl rfl (by omega) (by decide) (if_pos (by omega)) dX9_rows_43 ?_
      refine va_get (D := (dC, dI)) (ci := 5) (v := .ref (h 230)) (C := RX5) (T := TX5) (N := 3) hx hb hts hinX5 hown hK hP 6 rfl rfl 2 (by decide) (hts (.fieldLink RX9 290 "MixedWords$Sheet" "items" "[J") (by decide +kernel)) (fun _ h9 => h9) rfl dX9_rows_44 ?_
      refine lv_iload_n hx hb dX9_rows_47 rfl (lv_at hl 4 rfl) ?_
      refine xj_i (wc := (wTk2 h cs I L A Q G J)) (wr := [(h 100, .inr (9, [.ref (h 101), .ref (h 102), .ref (h 103), .ref (h 104), .ref (h 105), .ref (h 106), .ref (h 107), .ref (h 108), .ref (h 109)])), (h 109, .inl (cs 5, 4, .inr (.inr (.inr (.inr (fun i => if i < 4 then some (h (i + 110)) else none)))))), (h 110, .inr (5, [.int (I 220), .int (I 224), .ref (h 228)])), (h 228, .inl (cs 1, 25, .inr (.inl (Q 228)))), (h 111, .inr (5, [.int (I 221), .int (I 225), .ref (h 229)])), (h 229, .inl (cs 1, 25, .inr (.inl (Q 229)))), (h 112, .inr (5, [.int (I 222), .int (I 226), .ref (h 230)])), (h 113, .inr (5, [.int (I 223), .int (I 227), .ref (h 231)])), (h 231, .inl (cs 1, 25, .inr (.inl (Q 231)))), (h 102, .inr (0, [.ref (h 101), .ref (h 140), .ref (h 141), .ref (h 142), .ref (h 143), .int (I 144), .int (I 145), .int (I 146)])), (h 140, .inl (cs 0, 40, .inl (A 140))), (h 141, .inl (cs 0, 40, .inl (A 141))), (h 142, .inl (cs 0, 40, .inl (A 142))), (h 143, .inl (cs 0, 40, .inl (A 143)))]) hP hD hS hA [10, 11, 12, 13, 14, 15, 16, 17, 7] [0, 1, 2, 3, 4, 5, 6, 8, 9, 18, 19, 20, 21, 22] rfl rfl (by decide +kernel) (by decide +kernel) (va_runV (As := [.ref (h 230), .int (nI i9)]) (rest := []) ⟨hx, hb, hml, hown, hts⟩ (k_X3_takes2 l dC dI h cs H.size I L A Q G J i9 R M (by first | assumption | omega) hR (by first | assumption | omega | exact hR1) (by first | assumption | omega | exact hR5) hM (by first | assumption | omega | exact hM1) (by first | assumption | omega | exact hM4)) (cwV 2 hts gX9_rows_X3_takes rfl rfl rfl (by decide +kernel) ⟨Nat.le_of_ble_eq_true rfl, Nat.le_of_ble_eq_true rfl⟩) (xpV (wc := (wTk2 h cs I L A Q G J)) hP hD hK hN [10, 11, 12, 13, 14, 15, 16, 17, 7] rfl (by decide) 10 (ci := 3) rfl rfl _) rfl rfl hl.1 rfl (lv_room (Nat.le_of_ble_eq_true rfl)) dX9_rows_48 ⟨Nat.zero_le _, Nat.zero_le _⟩) (fun r_45 u_44 H locs hw hP hD hS => ?_)
      obtain ⟨hf_46, rfl⟩ := hw
      have hP : va_P (dC, dI) vwCl (wFX h cs I L A Q G J) H := xP_sub hP [0, 1, 2, 3, 4, 5, 6, 22, 7, 8, 14, 15, 16, 17, 18, 19, 20, 21, 9, 10, 11, 12, 13] rfl
      have hD : va_D A0 (wFX h cs I L A Q G J) := hD.sub [0, 1, 2, 3, 4, 5, 6, 22, 7, 8, 14, 15, 16, 17, 18, 19, 20, 21, 9, 10, 11, 12, 13] (by decide +kernel) rfl
      rcases (show (r_45 = nI 1 ∧ tkI (Q 230) i9 M R 0) ∨ (r_45 = nI 0 ∧ ¬ tkI (Q 230) i9 M R 0) from hf_46) with ⟨rfl, htk_47⟩ | ⟨rfl, htk_47⟩
      · skip
        refine lv_if_ne (tgt := 57) hx hb dX9_rows_51 (by decide) (fun _ => ?_) (fun c9 => False.elim (by revert c9; decide +kernel))
        refine lv_aload_n hx hb dX9_rows_57 rfl (lv_at hl 1 rfl) ?_
        refine va_get (D := (dC, dI)) (ci := 9) (v := .ref (h 101)) (C := RX9) (T := TX9) (N := 9) hx hb hts hinX9 hown hK hP 0 rfl rfl 0 (by decide) (hts (.fieldLink RX9 12 "MixedWords" "mix" "LMixedWords$Mix;") (by decide +kernel)) (fun _ h9 => h9) rfl dX9_rows_58 ?_
        refine lv_aload_n hx hb dX9_rows_61 rfl (lv_at hl 1 rfl) ?_
        refine va_get (D := (dC, dI)) (ci := 9) (v := .ref (h 109)) (C := RX9) (T := TX9) (N := 9) hx hb hts hinX9 hown hK hP 0 rfl rfl 8 (by decide) (hts (.fieldLink RX9 71 "MixedWords" "sheets" "[LMixedWords$Sheet;") (by decide +kernel)) (fun _ h9 => h9) rfl dX9_rows_62 ?_
        refine lv_iload_n hx hb dX9_rows_65 rfl (lv_at hl 2 rfl) ?_
        refine xa_aald (b := h 112) hx hb hK hP 1 5 rfl rfl rfl (by omega) (by decide) (if_pos (by omega)) dX9_rows_66 ?_
        refine va_get (D := (dC, dI)) (ci := 5) (v := .ref (h 230)) (C := RX5) (T := TX5) (N := 3) hx hb hts hinX5 hown hK hP 6 rfl rfl 2 (by decide) (hts (.fieldLink RX9 290 "MixedWords$Sheet" "items" "[J") (by decide +kernel)) (fun _ h9 => h9) rfl dX9_rows_67 ?_
        refine lv_iload_n hx hb dX9_rows_70 rfl (lv_at hl 4 rfl) ?_
        refine xj_v (wc := (wTk2 h cs I L A Q G J)) (wr := [(h 100, .inr (9, [.ref (h 101), .ref (h 102), .ref (h 103), .ref (h 104), .ref (h 105), .ref (h 106), .ref (h 107), .ref (h 108), .ref (h 109)])), (h 109, .inl (cs 5, 4, .inr (.inr (.inr (.inr (fun i => if i < 4 then some (h (i + 110)) else none)))))), (h 110, .inr (5, [.int (I 220), .int (I 224), .ref (h 228)])), (h 228, .inl (cs 1, 25, .inr (.inl (Q 228)))), (h 111, .inr (5, [.int (I 221), .int (I 225), .ref (h 229)])), (h 229, .inl (cs 1, 25, .inr (.inl (Q 229)))), (h 112, .inr (5, [.int (I 222), .int (I 226), .ref (h 230)])), (h 113, .inr (5, [.int (I 223), .int (I 227), .ref (h 231)])), (h 231, .inl (cs 1, 25, .inr (.inl (Q 231)))), (h 102, .inr (0, [.ref (h 101), .ref (h 140), .ref (h 141), .ref (h 142), .ref (h 143), .int (I 144), .int (I 145), .int (I 146)])), (h 140, .inl (cs 0, 40, .inl (A 140))), (h 141, .inl (cs 0, 40, .inl (A 141))), (h 142, .inl (cs 0, 40, .inl (A 142))), (h 143, .inl (cs 0, 40, .inl (A 143)))]) hP hD hS hA [10, 11, 12, 13, 14, 15, 16, 17, 7] [0, 1, 2, 3, 4, 5, 6, 8, 9, 18, 19, 20, 21, 22] rfl rfl (by decide +kernel) (by decide +kernel) (va_runV (As := [.ref (h 230), .int (nI i9)]) (rest := []) ⟨hx, hb, hml, hown, hts⟩ (k_X3_copy2 l dC dI h cs H.size I L A Q G J i9 R M sp9 (by first | assumption | omega) hR (by first | assumption | omega | exact hR1) (by first | assumption | omega | exact hR5) hM (by first | assumption | omega | exact hM1) (by first | assumption | omega | exact hM4) hst (by first | assumption | omega | exact hst2)) (cwV 2 hts gX9_rows_X3_copy rfl rfl rfl (by decide +kernel) ⟨Nat.le_of_ble_eq_true rfl, Nat.le_of_ble_eq_true rfl⟩) (xpV (wc := (wTk2 h cs I L A Q G J)) hP hD hK hN [10, 11, 12, 13, 14, 15, 16, 17, 7] rfl (by decide) 10 (ci := 3) rfl rfl _) rfl rfl hl.1 rfl (lv_room (Nat.le_of_ble_eq_true rfl)) dX9_rows_71 ⟨Nat.zero_le _, Nat.zero_le _⟩) (fun u_48 H locs hw hP hD hS => ?_)
        obtain ⟨i123_50, a136_51, g0_52, hf_53, rfl⟩ := hw
        have hP : va_P (dC, dI) vwCl (wFX h cs (va_up I 123 i123_50) L (va_up A 136 a136_51) Q (va_up G 0 g0_52) J) H := xP_sub hP [0, 1, 2, 3, 4, 5, 6, 22, 7, 8, 14, 15, 16, 17, 18, 19, 20, 21, 9, 10, 11, 12, 13] rfl
        have hD : va_D A0 (wFX h cs (va_up I 123 i123_50) L (va_up A 136 a136_51) Q (va_up G 0 g0_52) J) := hD.sub [0, 1, 2, 3, 4, 5, 6, 22, 7, 8, 14, 15, 16, 17, 18, 19, 20, 21, 9, 10, 11, 12, 13] (by decide +kernel) rfl
        obtain ⟨hcp_54, s2_55, hb_56, hb_57, rfl⟩ := hf_53
        refine lv_aload_n hx hb dX9_rows_74 rfl (lv_at hl 1 rfl) ?_
        refine va_get (D := (dC, dI)) (ci := 9) (v := .ref (h 102)) (C := RX9) (T := TX9) (N := 9) hx hb hts hinX9 hown hK hP 0 rfl rfl 1 (by decide) (hts (.fieldLink RX9 21 "MixedWords" "acts" "LMixedWords$Acts;") (by decide +kernel)) (fun _ h9 => h9) rfl dX9_rows_75 ?_
        refine xj_v (wc := (wAct0 h cs (va_up I 123 (nI s2_55)) L (va_up A 136 a136_51) Q (va_up G 0 g0_52) J)) (wr := [(h 100, .inr (9, [.ref (h 101), .ref (h 102), .ref (h 103), .ref (h 104), .ref (h 105), .ref (h 106), .ref (h 107), .ref (h 108), .ref (h 109)])), (h 109, .inl (cs 5, 4, .inr (.inr (.inr (.inr (fun i => if i < 4 then some (h (i + 110)) else none)))))), (h 110, .inr (5, [.int (I 220), .int (I 224), .ref (h 228)])), (h 228, .inl (cs 1, 25, .inr (.inl (Q 228)))), (h 111, .inr (5, [.int (I 221), .int (I 225), .ref (h 229)])), (h 229, .inl (cs 1, 25, .inr (.inl (Q 229)))), (h 112, .inr (5, [.int (I 222), .int (I 226), .ref (h 230)])), (h 230, .inl (cs 1, 25, .inr (.inl (Q 230)))), (h 113, .inr (5, [.int (I 223), .int (I 227), .ref (h 231)])), (h 231, .inl (cs 1, 25, .inr (.inl (Q 231)))), (h 101, .inr (3, [.int (I 120), .int (I 121), .int (I 122), .int (nI s2_55), .ref (h 130), .ref (h 136)])), (h 130, .inl (cs 3, 5, .inr (.inr (.inr (.inr (fun i => if i < 5 then some (h (i + 131)) else none)))))), (h 131, .inl (cs 0, 4, .inl (g0_52 0))), (h 132, .inl (cs 0, 4, .inl (g0_52 1))), (h 133, .inl (cs 0, 4, .inl (g0_52 2))), (h 134, .inl (cs 0, 4, .inl (g0_52 3))), (h 135, .inl (cs 0, 4, .inl (g0_52 4))), (h 136, .inl (cs 0, 5, .inl a136_51))]) hP hD hS hA [18, 19, 20, 21, 22] [0, 1, 2, 3, 4, 5, 6, 7, 8, 9, 10, 11, 12, 13, 14, 15, 16, 17] rfl rfl (by decide +kernel) (by decide +kernel) (va_runV (As := []) (rest := []) ⟨hx, hb, hml, hown, hts⟩ (k_X0_forget l dC dI h cs H.size (va_up I 123 (nI s2_55)) L (va_up A 136 a136_51) Q (va_up G 0 g0_52) J ) (cwV 0 hts gX9_rows_X0_forget rfl rfl rfl (by decide +kernel) ⟨Nat.le_of_ble_eq_true rfl, Nat.le_of_ble_eq_true rfl⟩) (xpV (wc := (wAct0 h cs (va_up I 123 (nI s2_55)) L (va_up A 136 a136_51) Q (va_up G 0 g0_52) J)) hP hD hK hN [18, 19, 20, 21, 22] rfl (by decide) 18 (ci := 0) rfl rfl _) rfl rfl hl.1 rfl (lv_room (Nat.le_of_ble_eq_true rfl)) dX9_rows_78 ⟨Nat.zero_le _, Nat.zero_le _⟩) (fun u_58 H locs hw hP hD hS => ?_)
        obtain ⟨x144_60, x145_61, x146_62, hf_63, rfl⟩ := hw
        have hP : va_P (dC, dI) vwCl (wFX h cs (va_up (va_up (va_up (va_up I 123 (nI s2_55)) 144 x144_60) 145 x145_61) 146 x146_62) L (va_up A 136 a136_51) Q (va_up G 0 g0_52) J) H := hP
        have hD : va_D A0 (wFX h cs (va_up (va_up (va_up (va_up I 123 (nI s2_55)) 144 x144_60) 145 x145_61) 146 x146_62) L (va_up A 136 a136_51) Q (va_up G 0 g0_52) J) := hD
        obtain ⟨rfl, rfl, rfl⟩ := hf_63
        refine lv_aload_n hx hb dX9_rows_81 rfl (lv_at hl 1 rfl) ?_
        refine va_get (D := (dC, dI)) (ci := 9) (v := .ref (h 101)) (C := RX9) (T := TX9) (N := 9) hx hb hts hinX9 hown hK hP 0 rfl rfl 0 (by decide) (hts (.fieldLink RX9 12 "MixedWords" "mix" "LMixedWords$Mix;") (by decide +kernel)) (fun _ h9 => h9) rfl dX9_rows_82 ?_
        refine va_get (D := (dC, dI)) (ci := 3) (v := .int (I 120)) (C := RX3) (T := TX3) (N := 6) hx hb hts hinX3 hown hK hP 10 rfl rfl 0 (by decide) (hts (.fieldLink RX9 147 "MixedWords$Mix" "height" "I") (by decide +kernel)) (fun _ h9 => h9) rfl dX9_rows_85 ?_
        refine xt_i (y := nI R) (hR) ?_
        exact xr_i (v := (nI R)) hx hb hr hlocks hK hS dX9_rows_88 ((va_up (va_up (va_up (va_up I 123 (nI s2_55)) 144 (nI 0)) 145 (nI 0)) 146 (nI 0)), L, (va_up A 136 a136_51), Q, (va_up G 0 g0_52), J) ⟨(nI s2_55), (nI 0), (nI 0), (nI 0), a136_51, g0_52, (Or.inr ⟨2, v9, i9, ln9, by omega, hv9, hln9, hxs9, hyv9, hzi9, hr1, hr2, hle9, hil9, Or.inr ⟨htk_47, rfl, hcp_54, ⟨s2_55, hb_56, hb_57, rfl⟩, rfl, rfl, rfl⟩⟩), rfl⟩ hP hD
      · skip
        refine lv_if_ne (tgt := 57) hx hb dX9_rows_51 (by decide) (fun c9 => False.elim (by revert c9; decide +kernel)) (fun _ => ?_)
        refine lv_bipush (v := (-2)) hx hb dX9_rows_54 (by decide) ?_
        exact xr_i (v := (-2)) hx hb hr hlocks hK hS dX9_rows_56 ((va_up (va_up (va_up (va_up I 123 (I 123)) 144 (I 144)) 145 (I 145)) 146 (I 146)), L, (va_up A 136 (A 136)), Q, (va_up G 0 (G 0)), J) ⟨(I 123), (I 144), (I 145), (I 146), (A 136), (G 0), (Or.inr ⟨2, v9, i9, ln9, by omega, hv9, hln9, hxs9, hyv9, hzi9, hr1, hr2, hle9, hil9, Or.inl ⟨htk_47, rfl, rfl, rfl, rfl, rfl, rfl, rfl⟩⟩), rfl⟩ hP hD
    · skip
      rw [hxs9, hzi9] at hl
      refine lv_istore (lv' := [(4, .int (nI 0)), (0, .ref (h 100)), (1, .int (nI 3)), (2, .int y), (3, .int (nI i9))]) hx hb dX9_rows_24 hl (by decide) rfl (fun ls hl => ?_)
      refine lv_iload hx hb dX9_rows_26 (lv_at hl 0 rfl) ?_
      refine lv_if_eq (tgt := 34) hx hb dX9_rows_28 (by decide) (fun _ => ?_) (fun c9 => False.elim (by revert c9; decide +kernel))
      refine lv_aload_n hx hb dX9_rows_34 rfl (lv_at hl 1 rfl) ?_
      refine va_get (D := (dC, dI)) (ci := 9) (v := .ref (h 101)) (C := RX9) (T := TX9) (N := 9) hx hb hts hinX9 hown hK hP 0 rfl rfl 0 (by decide) (hts (.fieldLink RX9 12 "MixedWords" "mix" "LMixedWords$Mix;") (by decide +kernel)) (fun _ h9 => h9) rfl dX9_rows_35 ?_
      refine lv_aload_n hx hb dX9_rows_38 rfl (lv_at hl 1 rfl) ?_
      refine va_get (D := (dC, dI)) (ci := 9) (v := .ref (h 109)) (C := RX9) (T := TX9) (N := 9) hx hb hts hinX9 hown hK hP 0 rfl rfl 8 (by decide) (hts (.fieldLink RX9 71 "MixedWords" "sheets" "[LMixedWords$Sheet;") (by decide +kernel)) (fun _ h9 => h9) rfl dX9_rows_39 ?_
      refine lv_iload_n hx hb dX9_rows_42 rfl (lv_at hl 2 rfl) ?_
      refine xa_aald (b := h 113) hx hb hK hP 1 5 rfl rfl rfl (by omega) (by decide) (if_pos (by omega)) dX9_rows_43 ?_
      refine va_get (D := (dC, dI)) (ci := 5) (v := .ref (h 231)) (C := RX5) (T := TX5) (N := 3) hx hb hts hinX5 hown hK hP 8 rfl rfl 2 (by decide) (hts (.fieldLink RX9 290 "MixedWords$Sheet" "items" "[J") (by decide +kernel)) (fun _ h9 => h9) rfl dX9_rows_44 ?_
      refine lv_iload_n hx hb dX9_rows_47 rfl (lv_at hl 4 rfl) ?_
      refine xj_i (wc := (wTk3 h cs I L A Q G J)) (wr := [(h 100, .inr (9, [.ref (h 101), .ref (h 102), .ref (h 103), .ref (h 104), .ref (h 105), .ref (h 106), .ref (h 107), .ref (h 108), .ref (h 109)])), (h 109, .inl (cs 5, 4, .inr (.inr (.inr (.inr (fun i => if i < 4 then some (h (i + 110)) else none)))))), (h 110, .inr (5, [.int (I 220), .int (I 224), .ref (h 228)])), (h 228, .inl (cs 1, 25, .inr (.inl (Q 228)))), (h 111, .inr (5, [.int (I 221), .int (I 225), .ref (h 229)])), (h 229, .inl (cs 1, 25, .inr (.inl (Q 229)))), (h 112, .inr (5, [.int (I 222), .int (I 226), .ref (h 230)])), (h 230, .inl (cs 1, 25, .inr (.inl (Q 230)))), (h 113, .inr (5, [.int (I 223), .int (I 227), .ref (h 231)])), (h 102, .inr (0, [.ref (h 101), .ref (h 140), .ref (h 141), .ref (h 142), .ref (h 143), .int (I 144), .int (I 145), .int (I 146)])), (h 140, .inl (cs 0, 40, .inl (A 140))), (h 141, .inl (cs 0, 40, .inl (A 141))), (h 142, .inl (cs 0, 40, .inl (A 142))), (h 143, .inl (cs 0, 40, .inl (A 143)))]) hP hD hS hA [10, 11, 12, 13, 14, 15, 16, 17, 9] [0, 1, 2, 3, 4, 5, 6, 7, 8, 18, 19, 20, 21, 22] rfl rfl (by decide +kernel) (by decide +kernel) (va_runV (As := [.ref (h 231), .int (nI i9)]) (rest := []) ⟨hx, hb, hml, hown, hts⟩ (k_X3_takes3 l dC dI h cs H.size I L A Q G J i9 R M (by first | assumption | omega) hR (by first | assumption | omega | exact hR1) (by first | assumption | omega | exact hR5) hM (by first | assumption | omega | exact hM1) (by first | assumption | omega | exact hM4)) (cwV 2 hts gX9_rows_X3_takes rfl rfl rfl (by decide +kernel) ⟨Nat.le_of_ble_eq_true rfl, Nat.le_of_ble_eq_true rfl⟩) (xpV (wc := (wTk3 h cs I L A Q G J)) hP hD hK hN [10, 11, 12, 13, 14, 15, 16, 17, 9] rfl (by decide) 10 (ci := 3) rfl rfl _) rfl rfl hl.1 rfl (lv_room (Nat.le_of_ble_eq_true rfl)) dX9_rows_48 ⟨Nat.zero_le _, Nat.zero_le _⟩) (fun r_65 u_64 H locs hw hP hD hS => ?_)
      obtain ⟨hf_66, rfl⟩ := hw
      have hP : va_P (dC, dI) vwCl (wFX h cs I L A Q G J) H := xP_sub hP [0, 1, 2, 3, 4, 5, 6, 7, 8, 22, 14, 15, 16, 17, 18, 19, 20, 21, 9, 10, 11, 12, 13] rfl
      have hD : va_D A0 (wFX h cs I L A Q G J) := hD.sub [0, 1, 2, 3, 4, 5, 6, 7, 8, 22, 14, 15, 16, 17, 18, 19, 20, 21, 9, 10, 11, 12, 13] (by decide +kernel) rfl
      rcases (show (r_65 = nI 1 ∧ tkI (Q 231) i9 M R 0) ∨ (r_65 = nI 0 ∧ ¬ tkI (Q 231) i9 M R 0) from hf_66) with ⟨rfl, htk_67⟩ | ⟨rfl, htk_67⟩
      · skip
        refine lv_if_ne (tgt := 57) hx hb dX9_rows_51 (by decide) (fun _ => ?_) (fun c9 => False.elim (by revert c9; decide +kernel))
        refine lv_aload_n hx hb dX9_rows_57 rfl (lv_at hl 1 rfl) ?_
        refine va_get (D := (dC, dI)) (ci := 9) (v := .ref (h 101)) (C := RX9) (T := TX9) (N := 9) hx hb hts hinX9 hown hK hP 0 rfl rfl 0 (by decide) (hts (.fieldLink RX9 12 "MixedWords" "mix" "LMixedWords$Mix;") (by decide +kernel)) (fun _ h9 => h9) rfl dX9_rows_58 ?_
        refine lv_aload_n hx hb dX9_rows_61 rfl (lv_at hl 1 rfl) ?_
        refine va_get (D := (dC, dI)) (ci := 9) (v := .ref (h 109)) (C := RX9) (T := TX9) (N := 9) hx hb hts hinX9 hown hK hP 0 rfl rfl 8 (by decide) (hts (.fieldLink RX9 71 "MixedWords" "sheets" "[LMixedWords$Sheet;") (by decide +kernel)) (fun _ h9 => h9) rfl dX9_rows_62 ?_
        refine lv_iload_n hx hb dX9_rows_65 rfl (lv_at hl 2 rfl) ?_
        refine xa_aald (b := h 113) hx hb hK hP 1 5 rfl rfl rfl (by omega) (by decide) (if_pos (by omega)) dX9_rows_66 ?_
        refine va_get (D := (dC, dI)) (ci := 5) (v := .ref (h 231)) (C := RX5) (T := TX5) (N := 3) hx hb hts hinX5 hown hK hP 8 rfl rfl 2 (by decide) (hts (.fieldLink RX9 290 "MixedWords$Sheet" "items" "[J") (by decide +kernel)) (fun _ h9 => h9) rfl dX9_rows_67 ?_
        refine lv_iload_n hx hb dX9_rows_70 rfl (lv_at hl 4 rfl) ?_
        refine xj_v (wc := (wTk3 h cs I L A Q G J)) (wr := [(h 100, .inr (9, [.ref (h 101), .ref (h 102), .ref (h 103), .ref (h 104), .ref (h 105), .ref (h 106), .ref (h 107), .ref (h 108), .ref (h 109)])), (h 109, .inl (cs 5, 4, .inr (.inr (.inr (.inr (fun i => if i < 4 then some (h (i + 110)) else none)))))), (h 110, .inr (5, [.int (I 220), .int (I 224), .ref (h 228)])), (h 228, .inl (cs 1, 25, .inr (.inl (Q 228)))), (h 111, .inr (5, [.int (I 221), .int (I 225), .ref (h 229)])), (h 229, .inl (cs 1, 25, .inr (.inl (Q 229)))), (h 112, .inr (5, [.int (I 222), .int (I 226), .ref (h 230)])), (h 230, .inl (cs 1, 25, .inr (.inl (Q 230)))), (h 113, .inr (5, [.int (I 223), .int (I 227), .ref (h 231)])), (h 102, .inr (0, [.ref (h 101), .ref (h 140), .ref (h 141), .ref (h 142), .ref (h 143), .int (I 144), .int (I 145), .int (I 146)])), (h 140, .inl (cs 0, 40, .inl (A 140))), (h 141, .inl (cs 0, 40, .inl (A 141))), (h 142, .inl (cs 0, 40, .inl (A 142))), (h 143, .inl (cs 0, 40, .inl (A 143)))]) hP hD hS hA [10, 11, 12, 13, 14, 15, 16, 17, 9] [0, 1, 2, 3, 4, 5, 6, 7, 8, 18, 19, 20, 21, 22] rfl rfl (by decide +kernel) (by decide +kernel) (va_runV (As := [.ref (h 231), .int (nI i9)]) (rest := []) ⟨hx, hb, hml, hown, hts⟩ (k_X3_copy3 l dC dI h cs H.size I L A Q G J i9 R M sp9 (by first | assumption | omega) hR (by first | assumption | omega | exact hR1) (by first | assumption | omega | exact hR5) hM (by first | assumption | omega | exact hM1) (by first | assumption | omega | exact hM4) hst (by first | assumption | omega | exact hst2)) (cwV 2 hts gX9_rows_X3_copy rfl rfl rfl (by decide +kernel) ⟨Nat.le_of_ble_eq_true rfl, Nat.le_of_ble_eq_true rfl⟩) (xpV (wc := (wTk3 h cs I L A Q G J)) hP hD hK hN [10, 11, 12, 13, 14, 15, 16, 17, 9] rfl (by decide) 10 (ci := 3) rfl rfl _) rfl rfl hl.1 rfl (lv_room (Nat.le_of_ble_eq_true rfl)) dX9_rows_71 ⟨Nat.zero_le _, Nat.zero_le _⟩) (fun u_68 H locs hw hP hD hS => ?_)
        obtain ⟨i123_70, a136_71, g0_72, hf_73, rfl⟩ := hw
        have hP : va_P (dC, dI) vwCl (wFX h cs (va_up I 123 i123_70) L (va_up A 136 a136_71) Q (va_up G 0 g0_72) J) H := xP_sub hP [0, 1, 2, 3, 4, 5, 6, 7, 8, 22, 14, 15, 16, 17, 18, 19, 20, 21, 9, 10, 11, 12, 13] rfl
        have hD : va_D A0 (wFX h cs (va_up I 123 i123_70) L (va_up A 136 a136_71) Q (va_up G 0 g0_72) J) := hD.sub [0, 1, 2, 3, 4, 5, 6, 7, 8, 22, 14, 15, 16, 17, 18, 19, 20, 21, 9, 10, 11, 12, 13] (by decide +kernel) rfl
        obtain ⟨hcp_74, s2_75, hb_76, hb_77, rfl⟩ := hf_73
        refine lv_aload_n hx hb dX9_rows_74 rfl (lv_at hl 1 rfl) ?_
        refine va_get (D := (dC, dI)) (ci := 9) (v := .ref (h 102)) (C := RX9) (T := TX9) (N := 9) hx hb hts hinX9 hown hK hP 0 rfl rfl 1 (by decide) (hts (.fieldLink RX9 21 "MixedWords" "acts" "LMixedWords$Acts;") (by decide +kernel)) (fun _ h9 => h9) rfl dX9_rows_75 ?_
        refine xj_v (wc := (wAct0 h cs (va_up I 123 (nI s2_75)) L (va_up A 136 a136_71) Q (va_up G 0 g0_72) J)) (wr := [(h 100, .inr (9, [.ref (h 101), .ref (h 102), .ref (h 103), .ref (h 104), .ref (h 105), .ref (h 106), .ref (h 107), .ref (h 108), .ref (h 109)])), (h 109, .inl (cs 5, 4, .inr (.inr (.inr (.inr (fun i => if i < 4 then some (h (i + 110)) else none)))))), (h 110, .inr (5, [.int (I 220), .int (I 224), .ref (h 228)])), (h 228, .inl (cs 1, 25, .inr (.inl (Q 228)))), (h 111, .inr (5, [.int (I 221), .int (I 225), .ref (h 229)])), (h 229, .inl (cs 1, 25, .inr (.inl (Q 229)))), (h 112, .inr (5, [.int (I 222), .int (I 226), .ref (h 230)])), (h 230, .inl (cs 1, 25, .inr (.inl (Q 230)))), (h 113, .inr (5, [.int (I 223), .int (I 227), .ref (h 231)])), (h 231, .inl (cs 1, 25, .inr (.inl (Q 231)))), (h 101, .inr (3, [.int (I 120), .int (I 121), .int (I 122), .int (nI s2_75), .ref (h 130), .ref (h 136)])), (h 130, .inl (cs 3, 5, .inr (.inr (.inr (.inr (fun i => if i < 5 then some (h (i + 131)) else none)))))), (h 131, .inl (cs 0, 4, .inl (g0_72 0))), (h 132, .inl (cs 0, 4, .inl (g0_72 1))), (h 133, .inl (cs 0, 4, .inl (g0_72 2))), (h 134, .inl (cs 0, 4, .inl (g0_72 3))), (h 135, .inl (cs 0, 4, .inl (g0_72 4))), (h 136, .inl (cs 0, 5, .inl a136_71))]) hP hD hS hA [18, 19, 20, 21, 22] [0, 1, 2, 3, 4, 5, 6, 7, 8, 9, 10, 11, 12, 13, 14, 15, 16, 17] rfl rfl (by decide +kernel) (by decide +kernel) (va_runV (As := []) (rest := []) ⟨hx, hb, hml, hown, hts⟩ (k_X0_forget l dC dI h cs H.size (va_up I 123 (nI s2_75)) L (va_up A 136 a136_71) Q (va_up G 0 g0_72) J ) (cwV 0 hts gX9_rows_X0_forget rfl rfl rfl (by decide +kernel) ⟨Nat.le_of_ble_eq_true rfl, Nat.le_of_ble_eq_true rfl⟩) (xpV (wc := (wAct0 h cs (va_up I 123 (nI s2_75)) L (va_up A 136 a136_71) Q (va_up G 0 g0_72) J)) hP hD hK hN [18, 19, 20, 21, 22] rfl (by decide) 18 (ci := 0) rfl rfl _) rfl rfl hl.1 rfl (lv_room (Nat.le_of_ble_eq_true rfl)) dX9_rows_78 ⟨Nat.zero_le _, Nat.zero_le _⟩) (fun u_78 H locs hw hP hD hS => ?_)
        obtain ⟨x144_80, x145_81, x146_82, hf_83, rfl⟩ := hw
        have hP : va_P (dC, dI) vwCl (wFX h cs (va_up (va_up (va_up (va_up I 123 (nI s2_75)) 144 x144_80) 145 x145_81) 146 x146_82) L (va_up A 136 a136_71) Q (va_up G 0 g0_72) J) H := hP
        have hD : va_D A0 (wFX h cs (va_up (va_up (va_up (va_up I 123 (nI s2_75)) 144 x144_80) 145 x145_81) 146 x146_82) L (va_up A 136 a136_71) Q (va_up G 0 g0_72) J) := hD
        obtain ⟨rfl, rfl, rfl⟩ := hf_83
        refine lv_aload_n hx hb dX9_rows_81 rfl (lv_at hl 1 rfl) ?_
        refine va_get (D := (dC, dI)) (ci := 9) (v := .ref (h 101)) (C := RX9) (T := TX9) (N := 9) hx hb hts hinX9 hown hK hP 0 rfl rfl 0 (by decide) (hts (.fieldLink RX9 12 "MixedWords" "mix" "LMixedWords$Mix;") (by decide +kernel)) (fun _ h9 => h9) rfl dX9_rows_82 ?_
        refine va_get (D := (dC, dI)) (ci := 3) (v := .int (I 120)) (C := RX3) (T := TX3) (N := 6) hx hb hts hinX3 hown hK hP 10 rfl rfl 0 (by decide) (hts (.fieldLink RX9 147 "MixedWords$Mix" "height" "I") (by decide +kernel)) (fun _ h9 => h9) rfl dX9_rows_85 ?_
        refine xt_i (y := nI R) (hR) ?_
        exact xr_i (v := (nI R)) hx hb hr hlocks hK hS dX9_rows_88 ((va_up (va_up (va_up (va_up I 123 (nI s2_75)) 144 (nI 0)) 145 (nI 0)) 146 (nI 0)), L, (va_up A 136 a136_71), Q, (va_up G 0 g0_72), J) ⟨(nI s2_75), (nI 0), (nI 0), (nI 0), a136_71, g0_72, (Or.inr ⟨3, v9, i9, ln9, by omega, hv9, hln9, hxs9, hyv9, hzi9, hr1, hr2, hle9, hil9, Or.inr ⟨htk_67, rfl, hcp_74, ⟨s2_75, hb_76, hb_77, rfl⟩, rfl, rfl, rfl⟩⟩), rfl⟩ hP hD
      · skip
        refine lv_if_ne (tgt := 57) hx hb dX9_rows_51 (by decide) (fun c9 => False.elim (by revert c9; decide +kernel)) (fun _ => ?_)
        refine lv_bipush (v := (-2)) hx hb dX9_rows_54 (by decide) ?_
        exact xr_i (v := (-2)) hx hb hr hlocks hK hS dX9_rows_56 ((va_up (va_up (va_up (va_up I 123 (I 123)) 144 (I 144)) 145 (I 145)) 146 (I 146)), L, (va_up A 136 (A 136)), Q, (va_up G 0 (G 0)), J) ⟨(I 123), (I 144), (I 145), (I 146), (A 136), (G 0), (Or.inr ⟨3, v9, i9, ln9, by omega, hv9, hln9, hxs9, hyv9, hzi9, hr1, hr2, hle9, hil9, Or.inl ⟨htk_67, rfl, rfl, rfl, rfl, rfl, rfl, rfl⟩⟩), rfl⟩ hP hD
