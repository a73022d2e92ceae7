theorem two_ne0 {x : Int32} (h : 0 < x) : nI 2 * x ≠ 0 := by
  intro e
  have h1 := Int32.lt_iff_toInt_lt.mp h
  have h2 := congrArg Int32.toInt e
  have h3 := Int32.toInt_lt x
  have h0 : (0 : Int32).toInt = 0 := by decide +kernel
  have h4 : (nI 2).toInt = 2 := by decide +kernel
  rw [Int32.toInt_mul, h0, h4] at h2
  rw [h0] at h1
  rw [Int.bmod_eq_emod] at h2
  split at h2 <;> omega
def wLead (h : Nat → Nat) (cs : Nat → ClassId) (I : Nat → Int32) (L : Nat → Int64) (A : Nat → Nat → Int32) (Q : Nat → Nat → Int64) (G : Nat → Nat → Nat → Int32) (J : Nat → Nat → Nat → Int64) : va_W := [(h 108, .inr (1, [.ref (h 101), .ref (h 200), .ref (h 206), .ref (h 211), .int (I 212), .int (I 213)])), (h 200, .inl (cs 3, 5, .inr (.inr (.inr (.inr (fun i => if i < 5 then some (h (i + 201)) else none)))))), (h 201, .inl (cs 0, 4, .inl ((G 2) 0))), (h 202, .inl (cs 0, 4, .inl ((G 2) 1))), (h 203, .inl (cs 0, 4, .inl ((G 2) 2))), (h 204, .inl (cs 0, 4, .inl ((G 2) 3))), (h 205, .inl (cs 0, 4, .inl ((G 2) 4))), (h 206, .inl (cs 3, 4, .inr (.inr (.inr (.inr (fun i => if i < 4 then some (h (i + 207)) else none)))))), (h 207, .inl (cs 0, 4, .inl ((G 3) 0))), (h 208, .inl (cs 0, 4, .inl ((G 3) 1))), (h 209, .inl (cs 0, 4, .inl ((G 3) 2))), (h 210, .inl (cs 0, 4, .inl ((G 3) 3))), (h 211, .inl (cs 0, 5, .inl (A 211))), (h 101, .inr (3, [.int (I 120), .int (I 121), .int (I 122), .int (I 123), .ref (h 130), .ref (h 136)])), (h 130, .inl (cs 3, 5, .inr (.inr (.inr (.inr (fun i => if i < 5 then some (h (i + 131)) else none)))))), (h 131, .inl (cs 0, 4, .inl ((G 0) 0))), (h 132, .inl (cs 0, 4, .inl ((G 0) 1))), (h 133, .inl (cs 0, 4, .inl ((G 0) 2))), (h 134, .inl (cs 0, 4, .inl ((G 0) 3))), (h 135, .inl (cs 0, 4, .inl ((G 0) 4))), (h 136, .inl (cs 0, 5, .inl (A 136)))]
theorem wLead_atG2 {h : Nat → Nat} {cs : Nat → ClassId} {I : Nat → Int32} {L : Nat → Int64} {A : Nat → Nat → Int32} {Q : Nat → Nat → Int64} {G : Nat → Nat → Nat → Int32} {J : Nat → Nat → Nat → Int64} {k : Nat} (hk : k < 5) : (wLead h cs I L A Q G J)[2 + k]? = some (h (k + 201), .inl (cs 0, 4, .inl (G 2 k))) := by
  rcases (show k = 0 ∨ k = 1 ∨ k = 2 ∨ k = 3 ∨ k = 4 by omega) with rfl | rfl | rfl | rfl | rfl <;> rfl
theorem wLead_setG2 {h : Nat → Nat} {cs : Nat → ClassId} {I : Nat → Int32} {L : Nat → Int64} {A : Nat → Nat → Int32} {Q : Nat → Nat → Int64} {G : Nat → Nat → Nat → Int32} {J : Nat → Nat → Nat → Int64} {k : Nat} {f : Nat → Int32} (hk : k < 5) : (wLead h cs I L A Q G J).set (2 + k) (h (k + 201), .inl (cs 0, 4, .inl (f))) = wLead h cs I L A Q (va_up G 2 (va_up (G 2) k f)) J := by
  rcases (show k = 0 ∨ k = 1 ∨ k = 2 ∨ k = 3 ∨ k = 4 by omega) with rfl | rfl | rfl | rfl | rfl <;> rfl
theorem wLead_atG3 {h : Nat → Nat} {cs : Nat → ClassId} {I : Nat → Int32} {L : Nat → Int64} {A : Nat → Nat → Int32} {Q : Nat → Nat → Int64} {G : Nat → Nat → Nat → Int32} {J : Nat → Nat → Nat → Int64} {k : Nat} (hk : k < 4) : (wLead h cs I L A Q G J)[8 + k]? = some (h (k + 207), .inl (cs 0, 4, .inl (G 3 k))) := by
  rcases (show k = 0 ∨ k = 1 ∨ k = 2 ∨ k = 3 by omega) with rfl | rfl | rfl | rfl <;> rfl
theorem wLead_setG3 {h : Nat → Nat} {cs : Nat → ClassId} {I : Nat → Int32} {L : Nat → Int64} {A : Nat → Nat → Int32} {Q : Nat → Nat → Int64} {G : Nat → Nat → Nat → Int32} {J : Nat → Nat → Nat → Int64} {k : Nat} {f : Nat → Int32} (hk : k < 4) : (wLead h cs I L A Q G J).set (8 + k) (h (k + 207), .inl (cs 0, 4, .inl (f))) = wLead h cs I L A Q (va_up G 3 (va_up (G 3) k f)) J := by
  rcases (show k = 0 ∨ k = 1 ∨ k = 2 ∨ k = 3 by omega) with rfl | rfl | rfl | rfl <;> rfl
theorem wLead_atG0 {h : Nat → Nat} {cs : Nat → ClassId} {I : Nat → Int32} {L : Nat → Int64} {A : Nat → Nat → Int32} {Q : Nat → Nat → Int64} {G : Nat → Nat → Nat → Int32} {J : Nat → Nat → Nat → Int64} {k : Nat} (hk : k < 5) : (wLead h cs I L A Q G J)[15 + k]? = some (h (k + 131), .inl (cs 0, 4, .inl (G 0 k))) := by
  rcases (show k = 0 ∨ k = 1 ∨ k = 2 ∨ k = 3 ∨ k = 4 by omega) with rfl | rfl | rfl | rfl | rfl <;> rfl
theorem wLead_setG0 {h : Nat → Nat} {cs : Nat → ClassId} {I : Nat → Int32} {L : Nat → Int64} {A : Nat → Nat → Int32} {Q : Nat → Nat → Int64} {G : Nat → Nat → Nat → Int32} {J : Nat → Nat → Nat → Int64} {k : Nat} {f : Nat → Int32} (hk : k < 5) : (wLead h cs I L A Q G J).set (15 + k) (h (k + 131), .inl (cs 0, 4, .inl (f))) = wLead h cs I L A Q (va_up G 0 (va_up (G 0) k f)) J := by
  rcases (show k = 0 ∨ k = 1 ∨ k = 2 ∨ k = 3 ∨ k = 4 by omega) with rfl | rfl | rfl | rfl | rfl <;> rfl
theorem bdX1_aim_0 : (decode cX1_aim 0 = .ok (.iconst 0, 1)) ∧ (decode cX1_aim 1 = .ok (.istore_n 1, 1)) ∧ (decode cX1_aim 2 = .ok (.iload_n 1, 1)) ∧ (decode cX1_aim 3 = .ok (.aload_n 0, 1)) ∧ (decode cX1_aim 4 = .ok (.getfield 27, 3)) ∧ (decode cX1_aim 7 = .ok (.getfield 64, 3)) ∧ (decode cX1_aim 10 = .ok (.if_icmp .ge 71, 3)) ∧ (decode cX1_aim 13 = .ok (.iconst 0, 1)) ∧ (decode cX1_aim 14 = .ok (.istore_n 2, 1)) ∧ (decode cX1_aim 15 = .ok (.iconst 0, 1)) ∧ (decode cX1_aim 16 = .ok (.istore_n 3, 1)) ∧ (decode cX1_aim 17 = .ok (.iload_n 3, 1)) ∧ (decode cX1_aim 18 = .ok (.aload_n 0, 1)) ∧ (decode cX1_aim 19 = .ok (.getfield 27, 3)) ∧ (decode cX1_aim 22 = .ok (.getfield 53, 3)) ∧ (decode cX1_aim 25 = .ok (.if_icmp .ge 23, 3)) := by decide +kernel
theorem dX1_aim_0 : decode cX1_aim 0 = .ok (.iconst 0, 1) := bdX1_aim_0.1
theorem dX1_aim_1 : decode cX1_aim 1 = .ok (.istore_n 1, 1) := bdX1_aim_0.2.1
theorem dX1_aim_2 : decode cX1_aim 2 = .ok (.iload_n 1, 1) := bdX1_aim_0.2.2.1
theorem dX1_aim_3 : decode cX1_aim 3 = .ok (.aload_n 0, 1) := bdX1_aim_0.2.2.2.1
theorem dX1_aim_4 : decode cX1_aim 4 = .ok (.getfield 27, 3) := bdX1_aim_0.2.2.2.2.1
theorem dX1_aim_7 : decode cX1_aim 7 = .ok (.getfield 64, 3) := bdX1_aim_0.2.2.2.2.2.1
theorem dX1_aim_10 : decode cX1_aim 10 = .ok (.if_icmp .ge 71, 3) := bdX1_aim_0.2.2.2.2.2.2.1
theorem dX1_aim_13 : decode cX1_aim 13 = .ok (.iconst 0, 1) := bdX1_aim_0.2.2.2.2.2.2.2.1
theorem dX1_aim_14 : decode cX1_aim 14 = .ok (.istore_n 2, 1) := bdX1_aim_0.2.2.2.2.2.2.2.2.1
theorem dX1_aim_15 : decode cX1_aim 15 = .ok (.iconst 0, 1) := bdX1_aim_0.2.2.2.2.2.2.2.2.2.1
theorem dX1_aim_16 : decode cX1_aim 16 = .ok (.istore_n 3, 1) := bdX1_aim_0.2.2.2.2.2.2.2.2.2.2.1
theorem dX1_aim_17 : decode cX1_aim 17 = .ok (.iload_n 3, 1) := bdX1_aim_0.2.2.2.2.2.2.2.2.2.2.2.1
theorem dX1_aim_18 : decode cX1_aim 18 = .ok (.aload_n 0, 1) := bdX1_aim_0.2.2.2.2.2.2.2.2.2.2.2.2.1
theorem dX1_aim_19 : decode cX1_aim 19 = .ok (.getfield 27, 3) := bdX1_aim_0.2.2.2.2.2.2.2.2.2.2.2.2.2.1
theorem dX1_aim_22 : decode cX1_aim 22 = .ok (.getfield 53, 3) := bdX1_aim_0.2.2.2.2.2.2.2.2.2.2.2.2.2.2.1
theorem dX1_aim_25 : decode cX1_aim 25 = .ok (.if_icmp .ge 23, 3) := bdX1_aim_0.2.2.2.2.2.2.2.2.2.2.2.2.2.2.2
theorem bdX1_aim_28 : (decode cX1_aim 28 = .ok (.iload_n 2, 1)) ∧ (decode cX1_aim 29 = .ok (.aload_n 0, 1)) ∧ (decode cX1_aim 30 = .ok (.getfield 27, 3)) ∧ (decode cX1_aim 33 = .ok (.getfield 44, 3)) ∧ (decode cX1_aim 36 = .ok (.iload_n 1, 1)) ∧ (decode cX1_aim 37 = .ok (.aaload, 1)) ∧ (decode cX1_aim 38 = .ok (.iload_n 3, 1)) ∧ (decode cX1_aim 39 = .ok (.iaload, 1)) ∧ (decode cX1_aim 40 = .ok (.iadd, 1)) ∧ (decode cX1_aim 41 = .ok (.istore_n 2, 1)) ∧ (decode cX1_aim 42 = .ok (.iinc 3 1, 3)) ∧ (decode cX1_aim 45 = .ok (.goto (-28), 3)) ∧ (decode cX1_aim 48 = .ok (.aload_n 0, 1)) ∧ (decode cX1_aim 49 = .ok (.getfield 19, 3)) ∧ (decode cX1_aim 52 = .ok (.iload_n 1, 1)) ∧ (decode cX1_aim 53 = .ok (.aload_n 0, 1)) := by decide +kernel
theorem dX1_aim_28 : decode cX1_aim 28 = .ok (.iload_n 2, 1) := bdX1_aim_28.1
theorem dX1_aim_29 : decode cX1_aim 29 = .ok (.aload_n 0, 1) := bdX1_aim_28.2.1
theorem dX1_aim_30 : decode cX1_aim 30 = .ok (.getfield 27, 3) := bdX1_aim_28.2.2.1
theorem dX1_aim_33 : decode cX1_aim 33 = .ok (.getfield 44, 3) := bdX1_aim_28.2.2.2.1
theorem dX1_aim_36 : decode cX1_aim 36 = .ok (.iload_n 1, 1) := bdX1_aim_28.2.2.2.2.1
theorem dX1_aim_37 : decode cX1_aim 37 = .ok (.aaload, 1) := bdX1_aim_28.2.2.2.2.2.1
theorem dX1_aim_38 : decode cX1_aim 38 = .ok (.iload_n 3, 1) := bdX1_aim_28.2.2.2.2.2.2.1
theorem dX1_aim_39 : decode cX1_aim 39 = .ok (.iaload, 1) := bdX1_aim_28.2.2.2.2.2.2.2.1
theorem dX1_aim_40 : decode cX1_aim 40 = .ok (.iadd, 1) := bdX1_aim_28.2.2.2.2.2.2.2.2.1
theorem dX1_aim_41 : decode cX1_aim 41 = .ok (.istore_n 2, 1) := bdX1_aim_28.2.2.2.2.2.2.2.2.2.1
theorem dX1_aim_42 : decode cX1_aim 42 = .ok (.iinc 3 1, 3) := bdX1_aim_28.2.2.2.2.2.2.2.2.2.2.1
theorem dX1_aim_45 : decode cX1_aim 45 = .ok (.goto (-28), 3) := bdX1_aim_28.2.2.2.2.2.2.2.2.2.2.2.1
theorem dX1_aim_48 : decode cX1_aim 48 = .ok (.aload_n 0, 1) := bdX1_aim_28.2.2.2.2.2.2.2.2.2.2.2.2.1
theorem dX1_aim_49 : decode cX1_aim 49 = .ok (.getfield 19, 3) := bdX1_aim_28.2.2.2.2.2.2.2.2.2.2.2.2.2.1
theorem dX1_aim_52 : decode cX1_aim 52 = .ok (.iload_n 1, 1) := bdX1_aim_28.2.2.2.2.2.2.2.2.2.2.2.2.2.2.1
theorem dX1_aim_53 : decode cX1_aim 53 = .ok (.aload_n 0, 1) := bdX1_aim_28.2.2.2.2.2.2.2.2.2.2.2.2.2.2.2
theorem bdX1_aim_54 : (decode cX1_aim 54 = .ok (.getfield 27, 3)) ∧ (decode cX1_aim 57 = .ok (.getfield 77, 3)) ∧ (decode cX1_aim 60 = .ok (.iload_n 1, 1)) ∧ (decode cX1_aim 61 = .ok (.iaload, 1)) ∧ (decode cX1_aim 62 = .ok (.aload_n 0, 1)) ∧ (decode cX1_aim 63 = .ok (.getfield 27, 3)) ∧ (decode cX1_aim 66 = .ok (.getfield 80, 3)) ∧ (decode cX1_aim 69 = .ok (.iconst 1, 1)) ∧ (decode cX1_aim 70 = .ok (.isub, 1)) ∧ (decode cX1_aim 71 = .ok (.iload_n 2, 1)) ∧ (decode cX1_aim 72 = .ok (.imul, 1)) ∧ (decode cX1_aim 73 = .ok (.iadd, 1)) ∧ (decode cX1_aim 74 = .ok (.iastore, 1)) ∧ (decode cX1_aim 75 = .ok (.iinc 1 1, 3)) ∧ (decode cX1_aim 78 = .ok (.goto (-76), 3)) ∧ (decode cX1_aim 81 = .ok (.return_, 1)) := by decide +kernel
theorem dX1_aim_54 : decode cX1_aim 54 = .ok (.getfield 27, 3) := bdX1_aim_54.1
theorem dX1_aim_57 : decode cX1_aim 57 = .ok (.getfield 77, 3) := bdX1_aim_54.2.1
theorem dX1_aim_60 : decode cX1_aim 60 = .ok (.iload_n 1, 1) := bdX1_aim_54.2.2.1
theorem dX1_aim_61 : decode cX1_aim 61 = .ok (.iaload, 1) := bdX1_aim_54.2.2.2.1
theorem dX1_aim_62 : decode cX1_aim 62 = .ok (.aload_n 0, 1) := bdX1_aim_54.2.2.2.2.1
theorem dX1_aim_63 : decode cX1_aim 63 = .ok (.getfield 27, 3) := bdX1_aim_54.2.2.2.2.2.1
theorem dX1_aim_66 : decode cX1_aim 66 = .ok (.getfield 80, 3) := bdX1_aim_54.2.2.2.2.2.2.1
theorem dX1_aim_69 : decode cX1_aim 69 = .ok (.iconst 1, 1) := bdX1_aim_54.2.2.2.2.2.2.2.1
theorem dX1_aim_70 : decode cX1_aim 70 = .ok (.isub, 1) := bdX1_aim_54.2.2.2.2.2.2.2.2.1
theorem dX1_aim_71 : decode cX1_aim 71 = .ok (.iload_n 2, 1) := bdX1_aim_54.2.2.2.2.2.2.2.2.2.1
theorem dX1_aim_72 : decode cX1_aim 72 = .ok (.imul, 1) := bdX1_aim_54.2.2.2.2.2.2.2.2.2.2.1
theorem dX1_aim_73 : decode cX1_aim 73 = .ok (.iadd, 1) := bdX1_aim_54.2.2.2.2.2.2.2.2.2.2.2.1
theorem dX1_aim_74 : decode cX1_aim 74 = .ok (.iastore, 1) := bdX1_aim_54.2.2.2.2.2.2.2.2.2.2.2.2.1
theorem dX1_aim_75 : decode cX1_aim 75 = .ok (.iinc 1 1, 3) := bdX1_aim_54.2.2.2.2.2.2.2.2.2.2.2.2.2.1
theorem dX1_aim_78 : decode cX1_aim 78 = .ok (.goto (-76), 3) := bdX1_aim_54.2.2.2.2.2.2.2.2.2.2.2.2.2.2.1
theorem dX1_aim_81 : decode cX1_aim 81 = .ok (.return_, 1) := bdX1_aim_54.2.2.2.2.2.2.2.2.2.2.2.2.2.2.2
set_option maxHeartbeats 4000000 in
set_option maxRecDepth 100000 in
theorem k_X1_aim (l : Launch) (dC : Nat → ClassId) (dI : Nat → Nat → Nat) (h : Nat → Nat) (cs : Nat → ClassId) (sz : Nat) (I : Nat → Int32) (L : Nat → Int64) (A : Nat → Nat → Int32) (Q : Nat → Nat → Int64) (G : Nat → Nat → Nat → Int32) (J : Nat → Nat → Nat → Int64) (R M a : Nat) (hR : I 120 = nI R) (hR1 : 1 ≤ R) (hR5 : R ≤ 5) (hM : I 121 = nI M) (hM1 : 1 ≤ M) (hM4 : M ≤ 4) (ha : I 122 = nI a) (ha2 : a = 2 ∨ a = 4) : Met l yX1_aim wsX1_aim ({ frames := 0, cells := 0, slots := 0, locals := 0 }) (va_Pc [.ref (h 108)] (xPre (dC, dI) (wLead h cs I L A Q G J) (tysA cs) sz)) (va_Qv (fun (u : CS) => ∃ a211 : Nat → Int32, (True) ∧ u = (I, L, (va_up A 211 a211), Q, G, J)) (xB (dC, dI) (tysA cs) (va_A (wLead h cs I L A Q G J) sz) (fun u : CS => wLead h cs u.1 u.2.1 u.2.2.1 u.2.2.2.1 u.2.2.2.2.1 u.2.2.2.2.2)) (va_A (wLead h cs I L A Q G J) sz)) 0 0 (va_A (wLead h cs I L A Q G J) sz) := by
  refine Met.ofW (cc := cX1_aim) (maxL := 4) (ret := none) (by decide) rfl ?_
  intro p e s m args below meth c s₁ B hml hv
  obtain ⟨rfl, hsz, hP, hK, hD0, hN⟩ := hv
  have hx := B.exec
  have hb := B.bytes
  have hr := B.returns
  have hts := atoms_spec (ws := wsX1_aim) B.pre
  have hown : s.vm.findClass RX1 = some m.cls := findClass_of_methodNamed B.named
  have hlocks := B.notSynchronized
  subst hsz
  have hD := hD0.self (sz := s.heap.size)
  generalize hAe : va_A (wLead h cs I L A Q G J) s.heap.size = A0 at hD ⊢
  have hA : ∀ q : Nat, s.heap.size ≤ q → A0 q := fun q h => by rw [← hAe]; exact Or.inr h
  have hl := lv_entry ([.ref (h 108)]) (n := 4) (Nat.le_of_ble_eq_true rfl)
  rw [lg_entry_eq]
  generalize (lg_sl ([.ref (h 108)]) ++ List.replicate (4 - (lg_sl ([.ref (h 108)])).length) Slot.unset).toArray = ls at hl ⊢
  have hl : lv_has ls 4 [(0, .ref (h 108))] := hl
  generalize hH : s.heap = H at hP ⊢
  have hS : va_S A0 s.heap H [] := by rw [← hH]; exact va_S.rf
  have hinX1 : ∀ w ∈ wsX10, w ∈ wsX1_aim := by decide +kernel
  have hinX3 : ∀ w ∈ wsX30, w ∈ wsX1_aim := by decide +kernel
  refine lv_iconst (v := nI 0) hx hb dX1_aim_0 (by decide) ?_
  refine lv_istore_n (lv' := [(1, .int (nI 0)), (0, .ref (h 108))]) hx hb dX1_aim_1 rfl hl (by decide) rfl (fun ls hl => ?_)
  have cut_2 : ∀ (nf : Nat) (n : Nat) (f211 : Nat → Int32), (R - n) < nf → (n ≤ R) → ∀ (H : Heap) (locs : List Loc) (ls : Array Slot), va_P (dC, dI) vwCl (wLead h cs I L (va_up A 211 f211) Q G J) H → va_D A0 (wLead h cs I L (va_up A 211 f211) Q G J) → va_S A0 s.heap H locs → lv_has ls 4 [(0, .ref (h 108)), (1, .int (nI n))] → W p l e (headSpec wsX1_aim ({ frames := 0, cells := 0, slots := 0, locals := 0 })).room s m ([.ref (h 108)] : List Value).toArray below meth c H locs 0 0 (MQ below (va_Qv (fun (u : CS) => ∃ a211 : Nat → Int32, (True) ∧ u = (I, L, (va_up A 211 a211), Q, G, J)) (xB (dC, dI) (tysA cs) A0 (fun u : CS => wLead h cs u.1 u.2.1 u.2.2.1 u.2.2.2.1 u.2.2.2.2.1 u.2.2.2.2.2)) A0) ([.ref (h 108)] : List Value).toArray s 0 0 A0) (F0 m 2 ls []) := by
    intro nf
    induction nf with
    | zero => intro n f211 hm; exact absurd hm (Nat.not_lt_zero _)
    | succ nf ih_2 =>
      intro n f211 hm_2 hn2 H locs ls hP hD hS hl
      refine lv_iload_n hx hb dX1_aim_2 rfl (lv_at hl 1 rfl) ?_
      refine lv_aload_n hx hb dX1_aim_3 rfl (lv_at hl 0 rfl) ?_
      refine va_get (D := (dC, dI)) (ci := 1) (v := .ref (h 101)) (C := RX1) (T := TX1) (N := 6) hx hb hts hinX1 hown hK hP 0 rfl rfl 0 (by decide) (hts (.fieldLink RX1 27 "MixedWords$Leader" "mix" "LMixedWords$Mix;") (by decide +kernel)) (fun _ h9 => h9) rfl dX1_aim_4 ?_
      refine va_get (D := (dC, dI)) (ci := 3) (v := .int (I 120)) (C := RX3) (T := TX3) (N := 6) hx hb hts hinX3 hown hK hP 13 rfl rfl 0 (by decide) (hts (.fieldLink RX1 64 "MixedWords$Mix" "height" "I") (by decide +kernel)) (fun _ h9 => h9) rfl dX1_aim_7 ?_
      refine xt_i (y := nI R) (hR) ?_
      refine xn_ge (tgt := 81) hx hb dX1_aim_10 (by decide) (by omega) (by omega) (fun c_10_0 => ?_) (fun c_10_0 => ?_)
      · skip
        exact xr_v hx hb hr hlocks hK hS dX1_aim_81 (I, L, (va_up A 211 f211), Q, G, J) ⟨f211, trivial, rfl⟩ hP hD
      · skip
        refine lv_iconst (v := nI 0) hx hb dX1_aim_13 (by decide) ?_
        refine lv_istore_n (lv' := [(2, .int (nI 0)), (0, .ref (h 108)), (1, .int (nI n))]) hx hb dX1_aim_14 rfl hl (by decide) rfl (fun ls hl => ?_)
        refine lv_iconst (v := nI 0) hx hb dX1_aim_15 (by decide) ?_
        refine lv_istore_n (lv' := [(3, .int (nI 0)), (2, .int (nI 0)), (0, .ref (h 108)), (1, .int (nI n))]) hx hb dX1_aim_16 rfl hl (by decide) rfl (fun ls hl => ?_)
        have cut_17 : ∀ (nf : Nat) (k : Nat) (z2 : Int32), (M - k) < nf → (k ≤ M) → ∀ (H : Heap) (locs : List Loc) (ls : Array Slot), va_P (dC, dI) vwCl (wLead h cs I L (va_up A 211 f211) Q G J) H → va_D A0 (wLead h cs I L (va_up A 211 f211) Q G J) → va_S A0 s.heap H locs → lv_has ls 4 [(0, .ref (h 108)), (1, .int (nI n)), (2, .int z2), (3, .int (nI k))] → W p l e (headSpec wsX1_aim ({ frames := 0, cells := 0, slots := 0, locals := 0 })).room s m ([.ref (h 108)] : List Value).toArray below meth c H locs 0 0 (MQ below (va_Qv (fun (u : CS) => ∃ a211 : Nat → Int32, (True) ∧ u = (I, L, (va_up A 211 a211), Q, G, J)) (xB (dC, dI) (tysA cs) A0 (fun u : CS => wLead h cs u.1 u.2.1 u.2.2.1 u.2.2.2.1 u.2.2.2.2.1 u.2.2.2.2.2)) A0) ([.ref (h 108)] : List Value).toArray s 0 0 A0) (F0 m 17 ls []) := by
          intro nf
          induction nf with
          | zero => intro k z2 hm; exact absurd hm (Nat.not_lt_zero _)
          | succ nf ih_17 =>
            intro k z2 hm_17 hk7 H locs ls hP hD hS hl
            refine lv_iload_n hx hb dX1_aim_17 rfl (lv_at hl 3 rfl) ?_
            refine lv_aload_n hx hb dX1_aim_18 rfl (lv_at hl 0 rfl) ?_
            refine va_get (D := (dC, dI)) (ci := 1) (v := .ref (h 101)) (C := RX1) (T := TX1) (N := 6) hx hb hts hinX1 hown hK hP 0 rfl rfl 0 (by decide) (hts (.fieldLink RX1 27 "MixedWords$Leader" "mix" "LMixedWords$Mix;") (by decide +kernel)) (fun _ h9 => h9) rfl dX1_aim_19 ?_
            refine va_get (D := (dC, dI)) (ci := 3) (v := .int (I 121)) (C := RX3) (T := TX3) (N := 6) hx hb hts hinX3 hown hK hP 13 rfl rfl 1 (by decide) (hts (.fieldLink RX1 53 "MixedWords$Mix" "width" "I") (by decide +kernel)) (fun _ h9 => h9) rfl dX1_aim_22 ?_
            refine xt_i (y := nI M) (hM) ?_
            refine xn_ge (tgt := 48) hx hb dX1_aim_25 (by decide) (by omega) (by omega) (fun c_25_1 => ?_) (fun c_25_1 => ?_)
            · skip
              refine lv_aload_n hx hb dX1_aim_48 rfl (lv_at hl 0 rfl) ?_
              refine va_get (D := (dC, dI)) (ci := 1) (v := .ref (h 211)) (C := RX1) (T := TX1) (N := 6) hx hb hts hinX1 hown hK hP 0 rfl rfl 3 (by decide) (hts (.fieldLink RX1 19 "MixedWords$Leader" "target" "[I") (by decide +kernel)) (fun _ h9 => h9) rfl dX1_aim_49 ?_
              refine lv_iload_n hx hb dX1_aim_52 rfl (lv_at hl 1 rfl) ?_
              refine lv_aload_n hx hb dX1_aim_53 rfl (lv_at hl 0 rfl) ?_
              refine va_get (D := (dC, dI)) (ci := 1) (v := .ref (h 101)) (C := RX1) (T := TX1) (N := 6) hx hb hts hinX1 hown hK hP 0 rfl rfl 0 (by decide) (hts (.fieldLink RX1 27 "MixedWords$Leader" "mix" "LMixedWords$Mix;") (by decide +kernel)) (fun _ h9 => h9) rfl dX1_aim_54 ?_
              refine va_get (D := (dC, dI)) (ci := 3) (v := .ref (h 136)) (C := RX3) (T := TX3) (N := 6) hx hb hts hinX3 hown hK hP 13 rfl rfl 5 (by decide) (hts (.fieldLink RX1 77 "MixedWords$Mix" "heard" "[I") (by decide +kernel)) (fun _ h9 => h9) rfl dX1_aim_57 ?_
              refine lv_iload_n hx hb dX1_aim_60 rfl (lv_at hl 1 rfl) ?_
              refine xa_iald hx hb hK hP 20 0 rfl rfl (by omega) (by decide) dX1_aim_61 ?_
              refine lv_aload_n hx hb dX1_aim_62 rfl (lv_at hl 0 rfl) ?_
              refine va_get (D := (dC, dI)) (ci := 1) (v := .ref (h 101)) (C := RX1) (T := TX1) (N := 6) hx hb hts hinX1 hown hK hP 0 rfl rfl 0 (by decide) (hts (.fieldLink RX1 27 "MixedWords$Leader" "mix" "LMixedWords$Mix;") (by decide +kernel)) (fun _ h9 => h9) rfl dX1_aim_63 ?_
              refine va_get (D := (dC, dI)) (ci := 3) (v := .int (I 122)) (C := RX3) (T := TX3) (N := 6) hx hb hts hinX3 hown hK hP 13 rfl rfl 2 (by decide) (hts (.fieldLink RX1 80 "MixedWords$Mix" "letterCount" "I") (by decide +kernel)) (fun _ h9 => h9) rfl dX1_aim_66 ?_
              refine xt_i (y := nI a) (ha) ?_
              refine lv_iconst (v := nI 1) hx hb dX1_aim_69 (by decide) ?_
              refine lv_isub hx hb dX1_aim_70 ?_
              refine xt_i (y := nI (a - 1)) (pk_sub (by omega)) ?_
              refine lv_iload_n hx hb dX1_aim_71 rfl (lv_at hl 2 rfl) ?_
              refine lv_imul hx hb dX1_aim_72 ?_
              refine lv_iadd hx hb dX1_aim_73 ?_
              refine xa_iast hx hb hK hP hD hS 12 0 rfl rfl (by omega) (by decide) dX1_aim_74 (fun H locs hP hD hS => ?_)
              have hP : va_P (dC, dI) vwCl (wLead h cs I L (va_up A 211 (upd f211 n ((A 136 n) + ((nI (a - 1)) * z2)))) Q G J) H := hP
              have hD : va_D A0 (wLead h cs I L (va_up A 211 (upd f211 n ((A 136 n) + ((nI (a - 1)) * z2)))) Q G J) := hD
              refine lv_iinc (v := nI (n + 1)) (lv' := [(1, .int (nI (n + 1))), (0, .ref (h 108)), (2, .int z2), (3, .int (nI k))]) hx hb dX1_aim_75 hl (k := 1) rfl (nI_1 _) (by decide) rfl (fun ls hl => ?_)
              refine lv_goto (tgt := 2) hx hb dX1_aim_78 (by decide) ?_
              exact ih_2 (n + 1) (upd f211 n ((A 136 n) + ((nI (a - 1)) * z2))) (by omega) (by first | assumption | omega) _ _ _ hP hD hS (lv_sub hl [1, 0] rfl)
            · skip
              refine lv_iload_n hx hb dX1_aim_28 rfl (lv_at hl 2 rfl) ?_
              refine lv_aload_n hx hb dX1_aim_29 rfl (lv_at hl 0 rfl) ?_
              refine va_get (D := (dC, dI)) (ci := 1) (v := .ref (h 101)) (C := RX1) (T := TX1) (N := 6) hx hb hts hinX1 hown hK hP 0 rfl rfl 0 (by decide) (hts (.fieldLink RX1 27 "MixedWords$Leader" "mix" "LMixedWords$Mix;") (by decide +kernel)) (fun _ h9 => h9) rfl dX1_aim_30 ?_
              refine va_get (D := (dC, dI)) (ci := 3) (v := .ref (h 130)) (C := RX3) (T := TX3) (N := 6) hx hb hts hinX3 hown hK hP 13 rfl rfl 4 (by decide) (hts (.fieldLink RX1 44 "MixedWords$Mix" "cells" "[[I") (by decide +kernel)) (fun _ h9 => h9) rfl dX1_aim_33 ?_
              refine lv_iload_n hx hb dX1_aim_36 rfl (lv_at hl 1 rfl) ?_
              refine xa_aald (b := h (n + 131)) hx hb hK hP 14 3 rfl rfl rfl (by omega) (by decide) (if_pos (by omega)) dX1_aim_37 ?_
              refine lv_iload_n hx hb dX1_aim_38 rfl (lv_at hl 3 rfl) ?_
              refine xa_iald hx hb hK hP (15 + n) 0 (wLead_atG0 (by omega)) rfl (by omega) (by decide) dX1_aim_39 ?_
              refine lv_iadd hx hb dX1_aim_40 ?_
              refine lv_istore_n (lv' := [(2, .int (z2 + (((G 0) n) k))), (0, .ref (h 108)), (1, .int (nI n)), (3, .int (nI k))]) hx hb dX1_aim_41 rfl hl (by decide) rfl (fun ls hl => ?_)
              refine lv_iinc (v := nI (k + 1)) (lv' := [(3, .int (nI (k + 1))), (2, .int (z2 + (((G 0) n) k))), (0, .ref (h 108)), (1, .int (nI n))]) hx hb dX1_aim_42 hl (k := 3) rfl (nI_1 _) (by decide) rfl (fun ls hl => ?_)
              refine lv_goto (tgt := 17) hx hb dX1_aim_45 (by decide) ?_
              exact ih_17 (k + 1) (z2 + (((G 0) n) k)) (by omega) (by first | assumption | omega) _ _ _ hP hD hS (lv_sub hl [2, 3, 1, 0] rfl)
        exact cut_17 _ 0 (nI 0) (Nat.lt_succ_self _) (by first | assumption | omega) _ _ _ hP hD hS (lv_sub hl [2, 3, 1, 0] rfl)
  exact cut_2 _ 0 (A 211) (Nat.lt_succ_self _) (by first | assumption | omega) _ _ _ hP hD hS (lv_sub hl [1, 0] rfl)
