set_option maxRecDepth 20000 in
theorem ggX9_refusal_X9_isSheet : GoodIn wsX9_refusal wsX9_isSheet := goodIn_r _ [7] (by decide +kernel) (by decide +kernel)
set_option maxRecDepth 20000 in
theorem gX9_refusal_X9_isSheet : GoodIn wsX9_refusal (va_wsS RX9 266 yX9_isSheet wsX9_isSheet) := goodIn_app (goodIn_of _ (by decide +kernel)) ggX9_refusal_X9_isSheet
set_option maxRecDepth 20000 in
theorem ggX9_refusal_X9_isLane : GoodIn wsX9_refusal wsX9_isLane := goodIn_r _ [10] (by decide +kernel) (by decide +kernel)
set_option maxRecDepth 20000 in
theorem gX9_refusal_X9_isLane : GoodIn wsX9_refusal (va_wsS RX9 269 yX9_isLane wsX9_isLane) := goodIn_app (goodIn_of _ (by decide +kernel)) ggX9_refusal_X9_isLane
set_option maxRecDepth 20000 in
theorem ggX9_refusal_X5_holds : GoodIn wsX9_refusal wsX5_holds := goodIn_r _ [15, 16, 26, 27, 28] (by decide +kernel) (by decide +kernel)
set_option maxRecDepth 20000 in
theorem gX9_refusal_X5_holds : GoodIn wsX9_refusal (wsV RX9 275 RX5 yX5_holds wsX5_holds) := goodIn_app (goodIn_of _ (by decide +kernel)) ggX9_refusal_X5_holds
theorem dX9_refusal_0 : decode cX9_refusal 0 = .ok (.iload_n 1, 1) := by decide +kernel
theorem dX9_refusal_1 : decode cX9_refusal 1 = .ok (.invokestatic 266, 3) := by decide +kernel
theorem dX9_refusal_4 : decode cX9_refusal 4 = .ok (.ifCond .eq 10, 3) := by decide +kernel
theorem dX9_refusal_7 : decode cX9_refusal 7 = .ok (.iload_n 2, 1) := by decide +kernel
theorem dX9_refusal_8 : decode cX9_refusal 8 = .ok (.invokestatic 269, 3) := by decide +kernel
theorem dX9_refusal_11 : decode cX9_refusal 11 = .ok (.ifCond .ne 5, 3) := by decide +kernel
theorem dX9_refusal_14 : decode cX9_refusal 14 = .ok (.iconst (-1), 1) := by decide +kernel
theorem dX9_refusal_15 : decode cX9_refusal 15 = .ok (.ireturn, 1) := by decide +kernel
theorem dX9_refusal_16 : decode cX9_refusal 16 = .ok (.aload_n 0, 1) := by decide +kernel
theorem dX9_refusal_17 : decode cX9_refusal 17 = .ok (.getfield 71, 3) := by decide +kernel
theorem dX9_refusal_20 : decode cX9_refusal 20 = .ok (.iload_n 1, 1) := by decide +kernel
theorem dX9_refusal_21 : decode cX9_refusal 21 = .ok (.aaload, 1) := by decide +kernel
theorem dX9_refusal_22 : decode cX9_refusal 22 = .ok (.invokevirtual 275, 3) := by decide +kernel
theorem dX9_refusal_25 : decode cX9_refusal 25 = .ok (.ifCond .ne 6, 3) := by decide +kernel
theorem dX9_refusal_28 : decode cX9_refusal 28 = .ok (.bipush (-11), 2) := by decide +kernel
theorem dX9_refusal_30 : decode cX9_refusal 30 = .ok (.ireturn, 1) := by decide +kernel
theorem dX9_refusal_31 : decode cX9_refusal 31 = .ok (.aload_n 0, 1) := by decide +kernel
theorem dX9_refusal_32 : decode cX9_refusal 32 = .ok (.getfield 71, 3) := by decide +kernel
theorem dX9_refusal_35 : decode cX9_refusal 35 = .ok (.iload_n 1, 1) := by decide +kernel
theorem dX9_refusal_36 : decode cX9_refusal 36 = .ok (.aaload, 1) := by decide +kernel
theorem dX9_refusal_37 : decode cX9_refusal 37 = .ok (.getfield 300, 3) := by decide +kernel
theorem dX9_refusal_40 : decode cX9_refusal 40 = .ok (.iload_n 2, 1) := by decide +kernel
theorem dX9_refusal_41 : decode cX9_refusal 41 = .ok (.if_icmp .eq 6, 3) := by decide +kernel
theorem dX9_refusal_44 : decode cX9_refusal 44 = .ok (.bipush (-12), 2) := by decide +kernel
theorem dX9_refusal_46 : decode cX9_refusal 46 = .ok (.ireturn, 1) := by decide +kernel
theorem dX9_refusal_47 : decode cX9_refusal 47 = .ok (.iload_n 3, 1) := by decide +kernel
theorem dX9_refusal_48 : decode cX9_refusal 48 = .ok (.ifCond .lt 19, 3) := by decide +kernel
theorem dX9_refusal_51 : decode cX9_refusal 51 = .ok (.iload_n 3, 1) := by decide +kernel
theorem dX9_refusal_52 : decode cX9_refusal 52 = .ok (.aload_n 0, 1) := by decide +kernel
theorem dX9_refusal_53 : decode cX9_refusal 53 = .ok (.getfield 71, 3) := by decide +kernel
theorem dX9_refusal_56 : decode cX9_refusal 56 = .ok (.iload_n 1, 1) := by decide +kernel
theorem dX9_refusal_57 : decode cX9_refusal 57 = .ok (.aaload, 1) := by decide +kernel
theorem dX9_refusal_58 : decode cX9_refusal 58 = .ok (.getfield 278, 3) := by decide +kernel
theorem dX9_refusal_61 : decode cX9_refusal 61 = .ok (.iload 4, 2) := by decide +kernel
theorem dX9_refusal_63 : decode cX9_refusal 63 = .ok (.isub, 1) := by decide +kernel
theorem dX9_refusal_64 : decode cX9_refusal 64 = .ok (.if_icmp .le 8, 3) := by decide +kernel
theorem dX9_refusal_67 : decode cX9_refusal 67 = .ok (.bipush (-13), 2) := by decide +kernel
theorem dX9_refusal_69 : decode cX9_refusal 69 = .ok (.goto 4, 3) := by decide +kernel
theorem dX9_refusal_72 : decode cX9_refusal 72 = .ok (.iconst 0, 1) := by decide +kernel
theorem dX9_refusal_73 : decode cX9_refusal 73 = .ok (.ireturn, 1) := by decide +kernel
set_option maxHeartbeats 4000000 in
set_option maxRecDepth 100000 in
theorem f_X9_refusal (l : Launch) (dC : Nat → ClassId) (dI : Nat → Nat → Nat) (h : Nat → Nat) (cs : Nat → ClassId) (sz : Nat) (I : Nat → Int32) (L : Nat → Int64) (A : Nat → Nat → Int32) (Q : Nat → Nat → Int64) (G : Nat → Nat → Nat → Int32) (J : Nat → Nat → Nat → Int64) (x y z w : Int32) : Met l yX9_refusal wsX9_refusal ({ frames := 1, cells := 0, slots := 0, locals := 20 }) (va_Pc [.ref (h 100), .int x, .int y, .int z, .int w] (xPre (dC, dI) (wAll h cs fI fL fA fQ fG fJ) (tysA cs) sz)) (va_Qi (fun (r : Int32) (u : CS) => (r = an_item x y) ∧ u = (fI, fL, fA, fQ, fG, fJ)) (xB (dC, dI) (tysA cs) (va_A (wAll h cs fI fL fA fQ fG fJ) sz) (fun u : CS => wAll h cs u.1 u.2.1 u.2.2.1 u.2.2.2.1 u.2.2.2.2.1 u.2.2.2.2.2)) (va_A (wAll h cs fI fL fA fQ fG fJ) sz)) 0 0 (va_A (wAll h cs fI fL fA fQ fG fJ) sz) := by
  refine Met.ofW (cc := cX9_refusal) (maxL := 5) (ret := (some .int)) (by decide) rfl ?_
  intro p e s m args below meth c s₁ B hml hv
  obtain ⟨rfl, hsz, hP, hK, hD0, hN⟩ := hv
  have hx := B.exec
  have hb := B.bytes
  have hr := B.returns
  have hts := atoms_spec (ws := wsX9_refusal) B.pre
  have hown : s.vm.findClass RX9 = some m.cls := findClass_of_methodNamed B.named
  have hlocks := B.notSynchronized
  subst hsz
  have hD := hD0.self (sz := s.heap.size)
  generalize hAe : va_A (wAll h cs fI fL fA fQ fG fJ) s.heap.size = A0 at hD ⊢
  have hA : ∀ q : Nat, s.heap.size ≤ q → A0 q := fun q h => by rw [← hAe]; exact Or.inr h
  have hl := lv_entry ([.ref (h 100), .int x, .int y, .int z, .int w]) (n := 5) (Nat.le_of_ble_eq_true rfl)
  rw [lg_entry_eq]
  generalize (lg_sl ([.ref (h 100), .int x, .int y, .int z, .int w]) ++ List.replicate (5 - (lg_sl ([.ref (h 100), .int x, .int y, .int z, .int w])).length) Slot.unset).toArray = ls at hl ⊢
  have hl : lv_has ls 5 [(0, .ref (h 100)), (1, .int x), (2, .int y), (3, .int z), (4, .int w)] := hl
  generalize hH : s.heap = H at hP ⊢
  have hS : va_S A0 s.heap H [] := by rw [← hH]; exact va_S.rf
  have hinX9 : ∀ w ∈ wsX90, w ∈ wsX9_refusal := by decide +kernel
  have hinX5 : ∀ w ∈ wsX50, w ∈ wsX9_refusal := by decide +kernel
  rcases splR x 0 3 (by decide) with ⟨i_x, h_x, g_x, rfl⟩ | hz_x
  · skip
    rcases (show i_x = 0 ∨ i_x = 1 ∨ i_x = 2 ∨ i_x = 3 by omega) with rfl | rfl | rfl | rfl
    · skip
      rcases splR y 0 2 (by decide) with ⟨i_y, h_y, g_y, rfl⟩ | hz_y
      · skip
        rcases (show i_y = 0 ∨ i_y = 1 ∨ i_y = 2 by omega) with rfl | rfl | rfl
        · skip
          refine lv_iload_n hx hb dX9_refusal_0 rfl (lv_at hl 1 rfl) ?_
          refine xj_i (wc := ([] : va_W)) (wr := (wAll h cs fI fL fA fQ fG fJ)) hP hD hS hA [] [0, 1, 2, 3, 4, 5, 6, 7, 8, 9, 10, 11, 12, 13, 14, 15, 16, 17, 18, 19, 20, 21, 22, 23, 24, 25, 26, 27, 28, 29, 30, 31, 32, 33, 34, 35, 36, 37, 38, 39, 40, 41, 42, 43, 44, 45, 46, 47, 48, 49, 50, 51, 52, 53, 54, 55, 56, 57, 58, 59, 60, 61] rfl rfl (by decide) (by decide) (va_runS (As := [.int (nI 0)]) (rest := []) ⟨hx, hb, hml, hown, hts⟩ (a_X9_isSheet_132 l dC dI h cs H.size I L A Q G J ) (va_cwS 1 hts gX9_refusal_X9_isSheet rfl rfl rfl (by decide +kernel) ⟨Nat.le_of_ble_eq_true rfl, Nat.le_of_ble_eq_true rfl⟩) (xpS (wc := ([] : va_W)) hP hD hK hN [] rfl (by decide) _) rfl rfl hl.1 rfl (lv_room (Nat.le_of_ble_eq_true rfl)) dX9_refusal_1 ⟨Nat.zero_le _, Nat.zero_le _⟩) (fun r_2 u_1 H locs hw hP hD hS => ?_)
          obtain ⟨hf_3, rfl⟩ := hw
          have hP : va_P (dC, dI) vwCl (wAll h cs fI fL fA fQ fG fJ) H := hP
          have hD : va_D A0 (wAll h cs fI fL fA fQ fG fJ) := hD
          obtain rfl := hf_3
          refine lv_if_eq (tgt := 14) hx hb dX9_refusal_4 (by decide) (fun c9 => False.elim (by revert c9; decide +kernel)) (fun _ => ?_)
          refine lv_iload_n hx hb dX9_refusal_7 rfl (lv_at hl 2 rfl) ?_
          refine xj_i (wc := ([] : va_W)) (wr := (wAll h cs fI fL fA fQ fG fJ)) hP hD hS hA [] [0, 1, 2, 3, 4, 5, 6, 7, 8, 9, 10, 11, 12, 13, 14, 15, 16, 17, 18, 19, 20, 21, 22, 23, 24, 25, 26, 27, 28, 29, 30, 31, 32, 33, 34, 35, 36, 37, 38, 39, 40, 41, 42, 43, 44, 45, 46, 47, 48, 49, 50, 51, 52, 53, 54, 55, 56, 57, 58, 59, 60, 61] rfl rfl (by decide) (by decide) (va_runS (As := [.int (nI 0)]) (rest := []) ⟨hx, hb, hml, hown, hts⟩ (a_X9_isLane_174 l dC dI h cs H.size I L A Q G J ) (va_cwS 1 hts gX9_refusal_X9_isLane rfl rfl rfl (by decide +kernel) ⟨Nat.le_of_ble_eq_true rfl, Nat.le_of_ble_eq_true rfl⟩) (xpS (wc := ([] : va_W)) hP hD hK hN [] rfl (by decide) _) rfl rfl hl.1 rfl (lv_room (Nat.le_of_ble_eq_true rfl)) dX9_refusal_8 ⟨Nat.zero_le _, Nat.zero_le _⟩) (fun r_5 u_4 H locs hw hP hD hS => ?_)
          obtain ⟨hf_6, rfl⟩ := hw
          have hP : va_P (dC, dI) vwCl (wAll h cs fI fL fA fQ fG fJ) H := hP
          have hD : va_D A0 (wAll h cs fI fL fA fQ fG fJ) := hD
          obtain rfl := hf_6
          refine lv_if_ne (tgt := 16) hx hb dX9_refusal_11 (by decide) (fun _ => ?_) (fun c9 => False.elim (by revert c9; decide +kernel))
          refine lv_aload_n hx hb dX9_refusal_16 rfl (lv_at hl 0 rfl) ?_
          refine va_get (D := (dC, dI)) (ci := 9) (v := .ref (h 109)) (C := RX9) (T := TX9) (N := 9) hx hb hts hinX9 hown hK hP 0 rfl rfl 8 (by decide) (hts (.fieldLink RX9 71 "MixedWords" "sheets" "[LMixedWords$Sheet;") (by decide +kernel)) (fun _ h9 => h9) rfl dX9_refusal_17 ?_
          refine lv_iload_n hx hb dX9_refusal_20 rfl (lv_at hl 1 rfl) ?_
          refine xa_aald (b := h 110) hx hb hK hP 53 5 rfl rfl rfl (by omega) (by decide) (if_pos (by omega)) dX9_refusal_21 ?_
          refine xj_i (wc := (wD_133 h cs fI fL fA fQ fG fJ)) (wr := [(h 100, .inr (9, [.ref (h 101), .ref (h 102), .ref (h 103), .ref (h 104), .ref (h 105), .ref (h 106), .ref (h 107), .ref (h 108), .ref (h 109)])), (h 101, .inr (3, [.int (fI 120), .int (fI 121), .int (fI 122), .int (fI 123), .ref (h 130), .ref (h 136)])), (h 130, .inl (cs 3, 5, .inr (.inr (.inr (.inr (fun i => if i < 5 then some (h (i + 131)) else none)))))), (h 131, .inl (cs 0, 4, .inl ((fG 0) 0))), (h 132, .inl (cs 0, 4, .inl ((fG 0) 1))), (h 133, .inl (cs 0, 4, .inl ((fG 0) 2))), (h 134, .inl (cs 0, 4, .inl ((fG 0) 3))), (h 135, .inl (cs 0, 4, .inl ((fG 0) 4))), (h 136, .inl (cs 0, 5, .inl (fA 136))), (h 102, .inr (0, [.ref (h 101), .ref (h 140), .ref (h 141), .ref (h 142), .ref (h 143), .int (fI 144), .int (fI 145), .int (fI 146)])), (h 140, .inl (cs 0, 40, .inl (fA 140))), (h 141, .inl (cs 0, 40, .inl (fA 141))), (h 142, .inl (cs 0, 40, .inl (fA 142))), (h 143, .inl (cs 0, 40, .inl (fA 143))), (h 103, .inr (7, [.ref (h 150), .int (fI 151)])), (h 150, .inl (cs 2, 90, .inl (fA 150))), (h 104, .inr (4, [.ref (h 103), .ref (h 160), .int (fI 166), .int (fI 167), .int (fI 168), .int (fI 169)])), (h 160, .inl (cs 3, 5, .inr (.inr (.inr (.inr (fun i => if i < 5 then some (h (i + 161)) else none)))))), (h 161, .inl (cs 0, 4, .inl ((fG 1) 0))), (h 162, .inl (cs 0, 4, .inl ((fG 1) 1))), (h 163, .inl (cs 0, 4, .inl ((fG 1) 2))), (h 164, .inl (cs 0, 4, .inl ((fG 1) 3))), (h 165, .inl (cs 0, 4, .inl ((fG 1) 4))), (h 105, .inr (8, [.ref (h 101), .ref (h 170), .ref (h 171), .ref (h 172), .int (fI 173), .int (fI 174)])), (h 170, .inl (cs 0, 256, .inl (fA 170))), (h 171, .inl (cs 0, 256, .inl (fA 171))), (h 172, .inl (cs 0, 256, .inl (fA 172))), (h 106, .inr (2, [.ref (h 180), .ref (h 185), .ref (h 186), .ref (h 187), .long (fL 188)])), (h 180, .inl (cs 4, 4, .inr (.inr (.inr (.inr (fun i => if i < 4 then some (h (i + 181)) else none)))))), (h 181, .inl (cs 1, 4, .inr (.inl ((fJ 0) 0)))), (h 182, .inl (cs 1, 4, .inr (.inl ((fJ 0) 1)))), (h 183, .inl (cs 1, 4, .inr (.inl ((fJ 0) 2)))), (h 184, .inl (cs 1, 4, .inr (.inl ((fJ 0) 3)))), (h 185, .inl (cs 1, 4, .inr (.inl (fQ 185)))), (h 186, .inl (cs 0, 4, .inl (fA 186))), (h 187, .inl (cs 1, 4, .inr (.inl (fQ 187)))), (h 107, .inr (6, [.ref (h 101), .ref (h 190), .ref (h 191), .ref (h 192)])), (h 190, .inl (cs 0, 5, .inl (fA 190))), (h 191, .inl (cs 0, 4, .inl (fA 191))), (h 192, .inl (cs 0, 4, .inl (fA 192))), (h 108, .inr (1, [.ref (h 101), .ref (h 200), .ref (h 206), .ref (h 211), .int (fI 212), .int (fI 213)])), (h 200, .inl (cs 3, 5, .inr (.inr (.inr (.inr (fun i => if i < 5 then some (h (i + 201)) else none)))))), (h 201, .inl (cs 0, 4, .inl ((fG 2) 0))), (h 202, .inl (cs 0, 4, .inl ((fG 2) 1))), (h 203, .inl (cs 0, 4, .inl ((fG 2) 2))), (h 204, .inl (cs 0, 4, .inl ((fG 2) 3))), (h 205, .inl (cs 0, 4, .inl ((fG 2) 4))), (h 206, .inl (cs 3, 4, .inr (.inr (.inr (.inr (fun i => if i < 4 then some (h (i + 207)) else none)))))), (h 207, .inl (cs 0, 4, .inl ((fG 3) 0))), (h 208, .inl (cs 0, 4, .inl ((fG 3) 1))), (h 209, .inl (cs 0, 4, .inl ((fG 3) 2))), (h 210, .inl (cs 0, 4, .inl ((fG 3) 3))), (h 211, .inl (cs 0, 5, .inl (fA 211))), (h 109, .inl (cs 5, 4, .inr (.inr (.inr (.inr (fun i => if i < 4 then some (h (i + 110)) else none)))))), (h 111, .inr (5, [.int (fI 221), .int (fI 225), .ref (h 229)])), (h 229, .inl (cs 1, 25, .inr (.inl (fQ 229)))), (h 112, .inr (5, [.int (fI 222), .int (fI 226), .ref (h 230)])), (h 230, .inl (cs 1, 25, .inr (.inl (fQ 230)))), (h 113, .inr (5, [.int (fI 223), .int (fI 227), .ref (h 231)])), (h 231, .inl (cs 1, 25, .inr (.inl (fQ 231))))]) hP hD hS hA [54, 55] [0, 1, 2, 3, 4, 5, 6, 7, 8, 9, 10, 11, 12, 13, 14, 15, 16, 17, 18, 19, 20, 21, 22, 23, 24, 25, 26, 27, 28, 29, 30, 31, 32, 33, 34, 35, 36, 37, 38, 39, 40, 41, 42, 43, 44, 45, 46, 47, 48, 49, 50, 51, 52, 53, 56, 57, 58, 59, 60, 61] rfl rfl (by decide) (by decide) (va_runV (As := []) (rest := []) ⟨hx, hb, hml, hown, hts⟩ (a_X5_holds_134 l dC dI h cs H.size fI fL fA fQ fG fJ ) (cwV 0 hts gX9_refusal_X5_holds rfl rfl rfl (by decide +kernel) ⟨Nat.le_of_ble_eq_true rfl, Nat.le_of_ble_eq_true rfl⟩) (xpV (wc := (wD_133 h cs fI fL fA fQ fG fJ)) hP hD hK hN [54, 55] rfl (by decide) 54 (ci := 5) rfl rfl _) rfl rfl hl.1 rfl (lv_room (Nat.le_of_ble_eq_true rfl)) dX9_refusal_22 ⟨Nat.zero_le _, Nat.zero_le _⟩) (fun r_8 u_7 H locs hw hP hD hS => ?_)
          obtain ⟨hf_9, rfl⟩ := hw
          have hP : va_P (dC, dI) vwCl (wAll h cs fI fL fA fQ fG fJ) H := xP_sub hP [0, 1, 2, 3, 4, 5, 6, 7, 8, 9, 10, 11, 12, 13, 14, 15, 16, 17, 18, 19, 20, 21, 22, 23, 24, 25, 26, 27, 28, 29, 30, 31, 32, 33, 34, 35, 36, 37, 38, 39, 40, 41, 42, 43, 44, 45, 46, 47, 48, 49, 50, 51, 52, 53, 60, 61, 54, 55, 56, 57, 58, 59] rfl
          have hD : va_D A0 (wAll h cs fI fL fA fQ fG fJ) := hD.sub [0, 1, 2, 3, 4, 5, 6, 7, 8, 9, 10, 11, 12, 13, 14, 15, 16, 17, 18, 19, 20, 21, 22, 23, 24, 25, 26, 27, 28, 29, 30, 31, 32, 33, 34, 35, 36, 37, 38, 39, 40, 41, 42, 43, 44, 45, 46, 47, 48, 49, 50, 51, 52, 53, 60, 61, 54, 55, 56, 57, 58, 59] (by decide) rfl
          obtain rfl := hf_9
          refine lv_if_ne (tgt := 31) hx hb dX9_refusal_25 (by decide) (fun c9 => False.elim (by revert c9; decide +kernel)) (fun _ => ?_)
          refine lv_bipush (v := (-11)) hx hb dX9_refusal_28 (by decide) ?_
          exact xr_i (v := (-11)) hx hb hr hlocks hK hS dX9_refusal_30 (fI, fL, fA, fQ, fG, fJ) ⟨(by decide +kernel), rfl⟩ hP hD
        · skip
          refine lv_iload_n hx hb dX9_refusal_0 rfl (lv_at hl 1 rfl) ?_
          refine xj_i (wc := ([] : va_W)) (wr := (wAll h cs fI fL fA fQ fG fJ)) hP hD hS hA [] [0, 1, 2, 3, 4, 5, 6, 7, 8, 9, 10, 11, 12, 13, 14, 15, 16, 17, 18, 19, 20, 21, 22, 23, 24, 25, 26, 27, 28, 29, 30, 31, 32, 33, 34, 35, 36, 37, 38, 39, 40, 41, 42, 43, 44, 45, 46, 47, 48, 49, 50, 51, 52, 53, 54, 55, 56, 57, 58, 59, 60, 61] rfl rfl (by decide) (by decide) (va_runS (As := [.int (nI 0)]) (rest := []) ⟨hx, hb, hml, hown, hts⟩ (a_X9_isSheet_132 l dC dI h cs H.size I L A Q G J ) (va_cwS 1 hts gX9_refusal_X9_isSheet rfl rfl rfl (by decide +kernel) ⟨Nat.le_of_ble_eq_true rfl, Nat.le_of_ble_eq_true rfl⟩) (xpS (wc := ([] : va_W)) hP hD hK hN [] rfl (by decide) _) rfl rfl hl.1 rfl (lv_room (Nat.le_of_ble_eq_true rfl)) dX9_refusal_1 ⟨Nat.zero_le _, Nat.zero_le _⟩) (fun r_11 u_10 H locs hw hP hD hS => ?_)
          obtain ⟨hf_12, rfl⟩ := hw
          have hP : va_P (dC, dI) vwCl (wAll h cs fI fL fA fQ fG fJ) H := hP
          have hD : va_D A0 (wAll h cs fI fL fA fQ fG fJ) := hD
          obtain rfl := hf_12
          refine lv_if_eq (tgt := 14) hx hb dX9_refusal_4 (by decide) (fun c9 => False.elim (by revert c9; decide +kernel)) (fun _ => ?_)
          refine lv_iload_n hx hb dX9_refusal_7 rfl (lv_at hl 2 rfl) ?_
          refine xj_i (wc := ([] : va_W)) (wr := (wAll h cs fI fL fA fQ fG fJ)) hP hD hS hA [] [0, 1, 2, 3, 4, 5, 6, 7, 8, 9, 10, 11, 12, 13, 14, 15, 16, 17, 18, 19, 20, 21, 22, 23, 24, 25, 26, 27, 28, 29, 30, 31, 32, 33, 34, 35, 36, 37, 38, 39, 40, 41, 42, 43, 44, 45, 46, 47, 48, 49, 50, 51, 52, 53, 54, 55, 56, 57, 58, 59, 60, 61] rfl rfl (by decide) (by decide) (va_runS (As := [.int (nI 1)]) (rest := []) ⟨hx, hb, hml, hown, hts⟩ (a_X9_isLane_175 l dC dI h cs H.size I L A Q G J ) (va_cwS 1 hts gX9_refusal_X9_isLane rfl rfl rfl (by decide +kernel) ⟨Nat.le_of_ble_eq_true rfl, Nat.le_of_ble_eq_true rfl⟩) (xpS (wc := ([] : va_W)) hP hD hK hN [] rfl (by decide) _) rfl rfl hl.1 rfl (lv_room (Nat.le_of_ble_eq_true rfl)) dX9_refusal_8 ⟨Nat.zero_le _, Nat.zero_le _⟩) (fun r_14 u_13 H locs hw hP hD hS => ?_)
          obtain ⟨hf_15, rfl⟩ := hw
          have hP : va_P (dC, dI) vwCl (wAll h cs fI fL fA fQ fG fJ) H := hP
          have hD : va_D A0 (wAll h cs fI fL fA fQ fG fJ) := hD
          obtain rfl := hf_15
          refine lv_if_ne (tgt := 16) hx hb dX9_refusal_11 (by decide) (fun _ => ?_) (fun c9 => False.elim (by revert c9; decide +kernel))
          refine lv_aload_n hx hb dX9_refusal_16 rfl (lv_at hl 0 rfl) ?_
          refine va_get (D := (dC, dI)) (ci := 9) (v := .ref (h 109)) (C := RX9) (T := TX9) (N := 9) hx hb hts hinX9 hown hK hP 0 rfl rfl 8 (by decide) (hts (.fieldLink RX9 71 "MixedWords" "sheets" "[LMixedWords$Sheet;") (by decide +kernel)) (fun _ h9 => h9) rfl dX9_refusal_17 ?_
          refine lv_iload_n hx hb dX9_refusal_20 rfl (lv_at hl 1 rfl) ?_
          refine xa_aald (b := h 110) hx hb hK hP 53 5 rfl rfl rfl (by omega) (by decide) (if_pos (by omega)) dX9_refusal_21 ?_
          refine xj_i (wc := (wD_133 h cs fI fL fA fQ fG fJ)) (wr := [(h 100, .inr (9, [.ref (h 101), .ref (h 102), .ref (h 103), .ref (h 104), .ref (h 105), .ref (h 106), .ref (h 107), .ref (h 108), .ref (h 109)])), (h 101, .inr (3, [.int (fI 120), .int (fI 121), .int (fI 122), .int (fI 123), .ref (h 130), .ref (h 136)])), (h 130, .inl (cs 3, 5, .inr (.inr (.inr (.inr (fun i => if i < 5 then some (h (i + 131)) else none)))))), (h 131, .inl (cs 0, 4, .inl ((fG 0) 0))), (h 132, .inl (cs 0, 4, .inl ((fG 0) 1))), (h 133, .inl (cs 0, 4, .inl ((fG 0) 2))), (h 134, .inl (cs 0, 4, .inl ((fG 0) 3))), (h 135, .inl (cs 0, 4, .inl ((fG 0) 4))), (h 136, .inl (cs 0, 5, .inl (fA 136))), (h 102, .inr (0, [.ref (h 101), .ref (h 140), .ref (h 141), .ref (h 142), .ref (h 143), .int (fI 144), .int (fI 145), .int (fI 146)])), (h 140, .inl (cs 0, 40, .inl (fA 140))), (h 141, .inl (cs 0, 40, .inl (fA 141))), (h 142, .inl (cs 0, 40, .inl (fA 142))), (h 143, .inl (cs 0, 40, .inl (fA 143))), (h 103, .inr (7, [.ref (h 150), .int (fI 151)])), (h 150, .inl (cs 2, 90, .inl (fA 150))), (h 104, .inr (4, [.ref (h 103), .ref (h 160), .int (fI 166), .int (fI 167), .int (fI 168), .int (fI 169)])), (h 160, .inl (cs 3, 5, .inr (.inr (.inr (.inr (fun i => if i < 5 then some (h (i + 161)) else none)))))), (h 161, .inl (cs 0, 4, .inl ((fG 1) 0))), (h 162, .inl (cs 0, 4, .inl ((fG 1) 1))), (h 163, .inl (cs 0, 4, .inl ((fG 1) 2))), (h 164, .inl (cs 0, 4, .inl ((fG 1) 3))), (h 165, .inl (cs 0, 4, .inl ((fG 1) 4))), (h 105, .inr (8, [.ref (h 101), .ref (h 170), .ref (h 171), .ref (h 172), .int (fI 173), .int (fI 174)])), (h 170, .inl (cs 0, 256, .inl (fA 170))), (h 171, .inl (cs 0, 256, .inl (fA 171))), (h 172, .inl (cs 0, 256, .inl (fA 172))), (h 106, .inr (2, [.ref (h 180), .ref (h 185), .ref (h 186), .ref (h 187), .long (fL 188)])), (h 180, .inl (cs 4, 4, .inr (.inr (.inr (.inr (fun i => if i < 4 then some (h (i + 181)) else none)))))), (h 181, .inl (cs 1, 4, .inr (.inl ((fJ 0) 0)))), (h 182, .inl (cs 1, 4, .inr (.inl ((fJ 0) 1)))), (h 183, .inl (cs 1, 4, .inr (.inl ((fJ 0) 2)))), (h 184, .inl (cs 1, 4, .inr (.inl ((fJ 0) 3)))), (h 185, .inl (cs 1, 4, .inr (.inl (fQ 185)))), (h 186, .inl (cs 0, 4, .inl (fA 186))), (h 187, .inl (cs 1, 4, .inr (.inl (fQ 187)))), (h 107, .inr (6, [.ref (h 101), .ref (h 190), .ref (h 191), .ref (h 192)])), (h 190, .inl (cs 0, 5, .inl (fA 190))), (h 191, .inl (cs 0, 4, .inl (fA 191))), (h 192, .inl (cs 0, 4, .inl (fA 192))), (h 108, .inr (1, [.ref (h 101), .ref (h 200), .ref (h 206), .ref (h 211), .int (fI 212), .int (fI 213)])), (h 200, .inl (cs 3, 5, .inr (.inr (.inr (.inr (fun i => if i < 5 then some (h (i + 201)) else none)))))), (h 201, .inl (cs 0, 4, .inl ((fG 2) 0))), (h 202, .inl (cs 0, 4, .inl ((fG 2) 1))), (h 203, .inl (cs 0, 4, .inl ((fG 2) 2))), (h 204, .inl (cs 0, 4, .inl ((fG 2) 3))), (h 205, .inl (cs 0, 4, .inl ((fG 2) 4))), (h 206, .inl (cs 3, 4, .inr (.inr (.inr (.inr (fun i => if i < 4 then some (h (i + 207)) else none)))))), (h 207, .inl (cs 0, 4, .inl ((fG 3) 0))), (h 208, .inl (cs 0, 4, .inl ((fG 3) 1))), (h 209, .inl (cs 0, 4, .inl ((fG 3) 2))), (h 210, .inl (cs 0, 4, .inl ((fG 3) 3))), (h 211, .inl (cs 0, 5, .inl (fA 211))), (h 109, .inl (cs 5, 4, .inr (.inr (.inr (.inr (fun i => if i < 4 then some (h (i + 110)) else none)))))), (h 111, .inr (5, [.int (fI 221), .int (fI 225), .ref (h 229)])), (h 229, .inl (cs 1, 25, .inr (.inl (fQ 229)))), (h 112, .inr (5, [.int (fI 222), .int (fI 226), .ref (h 230)])), (h 230, .inl (cs 1, 25, .inr (.inl (fQ 230)))), (h 113, .inr (5, [.int (fI 223), .int (fI 227), .ref (h 231)])), (h 231, .inl (cs 1, 25, .inr (.inl (fQ 231))))]) hP hD hS hA [54, 55] [0, 1, 2, 3, 4, 5, 6, 7, 8, 9, 10, 11, 12, 13, 14, 15, 16, 17, 18, 19, 20, 21, 22, 23, 24, 25, 26, 27, 28, 29, 30, 31, 32, 33, 34, 35, 36, 37, 38, 39, 40, 41, 42, 43, 44, 45, 46, 47, 48, 49, 50, 51, 52, 53, 56, 57, 58, 59, 60, 61] rfl rfl (by decide) (by decide) (va_runV (As := []) (rest := []) ⟨hx, hb, hml, hown, hts⟩ (a_X5_holds_134 l dC dI h cs H.size fI fL fA fQ fG fJ ) (cwV 0 hts gX9_refusal_X5_holds rfl rfl rfl (by decide +kernel) ⟨Nat.le_of_ble_eq_true rfl, Nat.le_of_ble_eq_true rfl⟩) (xpV (wc := (wD_133 h cs fI fL fA fQ fG fJ)) hP hD hK hN [54, 55] rfl (by decide) 54 (ci := 5) rfl rfl _) rfl rfl hl.1 rfl (lv_room (Nat.le_of_ble_eq_true rfl)) dX9_refusal_22 ⟨Nat.zero_le _, Nat.zero_le _⟩) (fun r_17 u_16 H locs hw hP hD hS => ?_)
          obtain ⟨hf_18, rfl⟩ := hw
          have hP : va_P (dC, dI) vwCl (wAll h cs fI fL fA fQ fG fJ) H := xP_sub hP [0, 1, 2, 3, 4, 5, 6, 7, 8, 9, 10, 11, 12, 13, 14, 15, 16, 17, 18, 19, 20, 21, 22, 23, 24, 25, 26, 27, 28, 29, 30, 31, 32, 33, 34, 35, 36, 37, 38, 39, 40, 41, 42, 43, 44, 45, 46, 47, 48, 49, 50, 51, 52, 53, 60, 61, 54, 55, 56, 57, 58, 59] rfl
          have hD : va_D A0 (wAll h cs fI fL fA fQ fG fJ) := hD.sub [0, 1, 2, 3, 4, 5, 6, 7, 8, 9, 10, 11, 12, 13, 14, 15, 16, 17, 18, 19, 20, 21, 22, 23, 24, 25, 26, 27, 28, 29, 30, 31, 32, 33, 34, 35, 36, 37, 38, 39, 40, 41, 42, 43, 44, 45, 46, 47, 48, 49, 50, 51, 52, 53, 60, 61, 54, 55, 56, 57, 58, 59] (by decide) rfl
          obtain rfl := hf_18
          refine lv_if_ne (tgt := 31) hx hb dX9_refusal_25 (by decide) (fun c9 => False.elim (by revert c9; decide +kernel)) (fun _ => ?_)
          refine lv_bipush (v := (-11)) hx hb dX9_refusal_28 (by decide) ?_
          exact xr_i (v := (-11)) hx hb hr hlocks hK hS dX9_refusal_30 (fI, fL, fA, fQ, fG, fJ) ⟨(by decide +kernel), rfl⟩ hP hD
        · skip
          refine lv_iload_n hx hb dX9_refusal_0 rfl (lv_at hl 1 rfl) ?_
          refine xj_i (wc := ([] : va_W)) (wr := (wAll h cs fI fL fA fQ fG fJ)) hP hD hS hA [] [0, 1, 2, 3, 4, 5, 6, 7, 8, 9, 10, 11, 12, 13, 14, 15, 16, 17, 18, 19, 20, 21, 22, 23, 24, 25, 26, 27, 28, 29, 30, 31, 32, 33, 34, 35, 36, 37, 38, 39, 40, 41, 42, 43, 44, 45, 46, 47, 48, 49, 50, 51, 52, 53, 54, 55, 56, 57, 58, 59, 60, 61] rfl rfl (by decide) (by decide) (va_runS (As := [.int (nI 0)]) (rest := []) ⟨hx, hb, hml, hown, hts⟩ (a_X9_isSheet_132 l dC dI h cs H.size I L A Q G J ) (va_cwS 1 hts gX9_refusal_X9_isSheet rfl rfl rfl (by decide +kernel) ⟨Nat.le_of_ble_eq_true rfl, Nat.le_of_ble_eq_true rfl⟩) (xpS (wc := ([] : va_W)) hP hD hK hN [] rfl (by decide) _) rfl rfl hl.1 rfl (lv_room (Nat.le_of_ble_eq_true rfl)) dX9_refusal_1 ⟨Nat.zero_le _, Nat.zero_le _⟩) (fun r_20 u_19 H locs hw hP hD hS => ?_)
          obtain ⟨hf_21, rfl⟩ := hw
          have hP : va_P (dC, dI) vwCl (wAll h cs fI fL fA fQ fG fJ) H := hP
          have hD : va_D A0 (wAll h cs fI fL fA fQ fG fJ) := hD
          obtain rfl := hf_21
          refine lv_if_eq (tgt := 14) hx hb dX9_refusal_4 (by decide) (fun c9 => False.elim (by revert c9; decide +kernel)) (fun _ => ?_)
          refine lv_iload_n hx hb dX9_refusal_7 rfl (lv_at hl 2 rfl) ?_
          refine xj_i (wc := ([] : va_W)) (wr := (wAll h cs fI fL fA fQ fG fJ)) hP hD hS hA [] [0, 1, 2, 3, 4, 5, 6, 7, 8, 9, 10, 11, 12, 13, 14, 15, 16, 17, 18, 19, 20, 21, 22, 23, 24, 25, 26, 27, 28, 29, 30, 31, 32, 33, 34, 35, 36, 37, 38, 39, 40, 41, 42, 43, 44, 45, 46, 47, 48, 49, 50, 51, 52, 53, 54, 55, 56, 57, 58, 59, 60, 61] rfl rfl (by decide) (by decide) (va_runS (As := [.int (nI 2)]) (rest := []) ⟨hx, hb, hml, hown, hts⟩ (a_X9_isLane_176 l dC dI h cs H.size I L A Q G J ) (va_cwS 1 hts gX9_refusal_X9_isLane rfl rfl rfl (by decide +kernel) ⟨Nat.le_of_ble_eq_true rfl, Nat.le_of_ble_eq_true rfl⟩) (xpS (wc := ([] : va_W)) hP hD hK hN [] rfl (by decide) _) rfl rfl hl.1 rfl (lv_room (Nat.le_of_ble_eq_true rfl)) dX9_refusal_8 ⟨Nat.zero_le _, Nat.zero_le _⟩) (fun r_23 u_22 H locs hw hP hD hS => ?_)
          obtain ⟨hf_24, rfl⟩ := hw
          have hP : va_P (dC, dI) vwCl (wAll h cs fI fL fA fQ fG fJ) H := hP
          have hD : va_D A0 (wAll h cs fI fL fA fQ fG fJ) := hD
          obtain rfl := hf_24
          refine lv_if_ne (tgt := 16) hx hb dX9_refusal_11 (by decide) (fun _ => ?_) (fun c9 => False.elim (by revert c9; decide +kernel))
          refine lv_aload_n hx hb dX9_refusal_16 rfl (lv_at hl 0 rfl) ?_
          refine va_get (D := (dC, dI)) (ci := 9) (v := .ref (h 109)) (C := RX9) (T := TX9) (N := 9) hx hb hts hinX9 hown hK hP 0 rfl rfl 8 (by decide) (hts (.fieldLink RX9 71 "MixedWords" "sheets" "[LMixedWords$Sheet;") (by decide +kernel)) (fun _ h9 => h9) rfl dX9_refusal_17 ?_
          refine lv_iload_n hx hb dX9_refusal_20 rfl (lv_at hl 1 rfl) ?_
          refine xa_aald (b := h 110) hx hb hK hP 53 5 rfl rfl rfl (by omega) (by decide) (if_pos (by omega)) dX9_refusal_21 ?_
          refine xj_i (wc := (wD_133 h cs fI fL fA fQ fG fJ)) (wr := [(h 100, .inr (9, [.ref (h 101), .ref (h 102), .ref (h 103), .ref (h 104), .ref (h 105), .ref (h 106), .ref (h 107), .ref (h 108), .ref (h 109)])), (h 101, .inr (3, [.int (fI 120), .int (fI 121), .int (fI 122), .int (fI 123), .ref (h 130), .ref (h 136)])), (h 130, .inl (cs 3, 5, .inr (.inr (.inr (.inr (fun i => if i < 5 then some (h (i + 131)) else none)))))), (h 131, .inl (cs 0, 4, .inl ((fG 0) 0))), (h 132, .inl (cs 0, 4, .inl ((fG 0) 1))), (h 133, .inl (cs 0, 4, .inl ((fG 0) 2))), (h 134, .inl (cs 0, 4, .inl ((fG 0) 3))), (h 135, .inl (cs 0, 4, .inl ((fG 0) 4))), (h 136, .inl (cs 0, 5, .inl (fA 136))), (h 102, .inr (0, [.ref (h 101), .ref (h 140), .ref (h 141), .ref (h 142), .ref (h 143), .int (fI 144), .int (fI 145), .int (fI 146)])), (h 140, .inl (cs 0, 40, .inl (fA 140))), (h 141, .inl (cs 0, 40, .inl (fA 141))), (h 142, .inl (cs 0, 40, .inl (fA 142))), (h 143, .inl (cs 0, 40, .inl (fA 143))), (h 103, .inr (7, [.ref (h 150), .int (fI 151)])), (h 150, .inl (cs 2, 90, .inl (fA 150))), (h 104, .inr (4, [.ref (h 103), .ref (h 160), .int (fI 166), .int (fI 167), .int (fI 168), .int (fI 169)])), (h 160, .inl (cs 3, 5, .inr (.inr (.inr (.inr (fun i => if i < 5 then some (h (i + 161)) else none)))))), (h 161, .inl (cs 0, 4, .inl ((fG 1) 0))), (h 162, .inl (cs 0, 4, .inl ((fG 1) 1))), (h 163, .inl (cs 0, 4, .inl ((fG 1) 2))), (h 164, .inl (cs 0, 4, .inl ((fG 1) 3))), (h 165, .inl (cs 0, 4, .inl ((fG 1) 4))), (h 105, .inr (8, [.ref (h 101), .ref (h 170), .ref (h 171), .ref (h 172), .int (fI 173), .int (fI 174)])), (h 170, .inl (cs 0, 256, .inl (fA 170))), (h 171, .inl (cs 0, 256, .inl (fA 171))), (h 172, .inl (cs 0, 256, .inl (fA 172))), (h 106, .inr (2, [.ref (h 180), .ref (h 185), .ref (h 186), .ref (h 187), .long (fL 188)])), (h 180, .inl (cs 4, 4, .inr (.inr (.inr (.inr (fun i => if i < 4 then some (h (i + 181)) else none)))))), (h 181, .inl (cs 1, 4, .inr (.inl ((fJ 0) 0)))), (h 182, .inl (cs 1, 4, .inr (.inl ((fJ 0) 1)))), (h 183, .inl (cs 1, 4, .inr (.inl ((fJ 0) 2)))), (h 184, .inl (cs 1, 4, .inr (.inl ((fJ 0) 3)))), (h 185, .inl (cs 1, 4, .inr (.inl (fQ 185)))), (h 186, .inl (cs 0, 4, .inl (fA 186))), (h 187, .inl (cs 1, 4, .inr (.inl (fQ 187)))), (h 107, .inr (6, [.ref (h 101), .ref (h 190), .ref (h 191), .ref (h 192)])), (h 190, .inl (cs 0, 5, .inl (fA 190))), (h 191, .inl (cs 0, 4, .inl (fA 191))), (h 192, .inl (cs 0, 4, .inl (fA 192))), (h 108, .inr (1, [.ref (h 101), .ref (h 200), .ref (h 206), .ref (h 211), .int (fI 212), .int (fI 213)])), (h 200, .inl (cs 3, 5, .inr (.inr (.inr (.inr (fun i => if i < 5 then some (h (i + 201)) else none)))))), (h 201, .inl (cs 0, 4, .inl ((fG 2) 0))), (h 202, .inl (cs 0, 4, .inl ((fG 2) 1))), (h 203, .inl (cs 0, 4, .inl ((fG 2) 2))), (h 204, .inl (cs 0, 4, .inl ((fG 2) 3))), (h 205, .inl (cs 0, 4, .inl ((fG 2) 4))), (h 206, .inl (cs 3, 4, .inr (.inr (.inr (.inr (fun i => if i < 4 then some (h (i + 207)) else none)))))), (h 207, .inl (cs 0, 4, .inl ((fG 3) 0))), (h 208, .inl (cs 0, 4, .inl ((fG 3) 1))), (h 209, .inl (cs 0, 4, .inl ((fG 3) 2))), (h 210, .inl (cs 0, 4, .inl ((fG 3) 3))), (h 211, .inl (cs 0, 5, .inl (fA 211))), (h 109, .inl (cs 5, 4, .inr (.inr (.inr (.inr (fun i => if i < 4 then some (h (i + 110)) else none)))))), (h 111, .inr (5, [.int (fI 221), .int (fI 225), .ref (h 229)])), (h 229, .inl (cs 1, 25, .inr (.inl (fQ 229)))), (h 112, .inr (5, [.int (fI 222), .int (fI 226), .ref (h 230)])), (h 230, .inl (cs 1, 25, .inr (.inl (fQ 230)))), (h 113, .inr (5, [.int (fI 223), .int (fI 227), .ref (h 231)])), (h 231, .inl (cs 1, 25, .inr (.inl (fQ 231))))]) hP hD hS hA [54, 55] [0, 1, 2, 3, 4, 5, 6, 7, 8, 9, 10, 11, 12, 13, 14, 15, 16, 17, 18, 19, 20, 21, 22, 23, 24, 25, 26, 27, 28, 29, 30, 31, 32, 33, 34, 35, 36, 37, 38, 39, 40, 41, 42, 43, 44, 45, 46, 47, 48, 49, 50, 51, 52, 53, 56, 57, 58, 59, 60, 61] rfl rfl (by decide) (by decide) (va_runV (As := []) (rest := []) ⟨hx, hb, hml, hown, hts⟩ (a_X5_holds_134 l dC dI h cs H.size fI fL fA fQ fG fJ ) (cwV 0 hts gX9_refusal_X5_holds rfl rfl rfl (by decide +kernel) ⟨Nat.le_of_ble_eq_true rfl, Nat.le_of_ble_eq_true rfl⟩) (xpV (wc := (wD_133 h cs fI fL fA fQ fG fJ)) hP hD hK hN [54, 55] rfl (by decide) 54 (ci := 5) rfl rfl _) rfl rfl hl.1 rfl (lv_room (Nat.le_of_ble_eq_true rfl)) dX9_refusal_22 ⟨Nat.zero_le _, Nat.zero_le _⟩) (fun r_26 u_25 H locs hw hP hD hS => ?_)
          obtain ⟨hf_27, rfl⟩ := hw
          have hP : va_P (dC, dI) vwCl (wAll h cs fI fL fA fQ fG fJ) H := xP_sub hP [0, 1, 2, 3, 4, 5, 6, 7, 8, 9, 10, 11, 12, 13, 14, 15, 16, 17, 18, 19, 20, 21, 22, 23, 24, 25, 26, 27, 28, 29, 30, 31, 32, 33, 34, 35, 36, 37, 38, 39, 40, 41, 42, 43, 44, 45, 46, 47, 48, 49, 50, 51, 52, 53, 60, 61, 54, 55, 56, 57, 58, 59] rfl
          have hD : va_D A0 (wAll h cs fI fL fA fQ fG fJ) := hD.sub [0, 1, 2, 3, 4, 5, 6, 7, 8, 9, 10, 11, 12, 13, 14, 15, 16, 17, 18, 19, 20, 21, 22, 23, 24, 25, 26, 27, 28, 29, 30, 31, 32, 33, 34, 35, 36, 37, 38, 39, 40, 41, 42, 43, 44, 45, 46, 47, 48, 49, 50, 51, 52, 53, 60, 61, 54, 55, 56, 57, 58, 59] (by decide) rfl
          obtain rfl := hf_27
          refine lv_if_ne (tgt := 31) hx hb dX9_refusal_25 (by decide) (fun c9 => False.elim (by revert c9; decide +kernel)) (fun _ => ?_)
          refine lv_bipush (v := (-11)) hx hb dX9_refusal_28 (by decide) ?_
          exact xr_i (v := (-11)) hx hb hr hlocks hK hS dX9_refusal_30 (fI, fL, fA, fQ, fG, fJ) ⟨(by decide +kernel), rfl⟩ hP hD
      · skip
        refine lv_iload_n hx hb dX9_refusal_0 rfl (lv_at hl 1 rfl) ?_
        refine xj_i (wc := ([] : va_W)) (wr := (wAll h cs fI fL fA fQ fG fJ)) hP hD hS hA [] [0, 1, 2, 3, 4, 5, 6, 7, 8, 9, 10, 11, 12, 13, 14, 15, 16, 17, 18, 19, 20, 21, 22, 23, 24, 25, 26, 27, 28, 29, 30, 31, 32, 33, 34, 35, 36, 37, 38, 39, 40, 41, 42, 43, 44, 45, 46, 47, 48, 49, 50, 51, 52, 53, 54, 55, 56, 57, 58, 59, 60, 61] rfl rfl (by decide) (by decide) (va_runS (As := [.int (nI 0)]) (rest := []) ⟨hx, hb, hml, hown, hts⟩ (a_X9_isSheet_132 l dC dI h cs H.size I L A Q G J ) (va_cwS 1 hts gX9_refusal_X9_isSheet rfl rfl rfl (by decide +kernel) ⟨Nat.le_of_ble_eq_true rfl, Nat.le_of_ble_eq_true rfl⟩) (xpS (wc := ([] : va_W)) hP hD hK hN [] rfl (by decide) _) rfl rfl hl.1 rfl (lv_room (Nat.le_of_ble_eq_true rfl)) dX9_refusal_1 ⟨Nat.zero_le _, Nat.zero_le _⟩) (fun r_29 u_28 H locs hw hP hD hS => ?_)
        obtain ⟨hf_30, rfl⟩ := hw
        have hP : va_P (dC, dI) vwCl (wAll h cs fI fL fA fQ fG fJ) H := hP
        have hD : va_D A0 (wAll h cs fI fL fA fQ fG fJ) := hD
        obtain rfl := hf_30
        refine lv_if_eq (tgt := 14) hx hb dX9_refusal_4 (by decide) (fun c9 => False.elim (by revert c9; decide +kernel)) (fun _ => ?_)
        refine lv_iload_n hx hb dX9_refusal_7 rfl (lv_at hl 2 rfl) ?_
        refine xj_i (wc := ([] : va_W)) (wr := (wAll h cs fI fL fA fQ fG fJ)) hP hD hS hA [] [0, 1, 2, 3, 4, 5, 6, 7, 8, 9, 10, 11, 12, 13, 14, 15, 16, 17, 18, 19, 20, 21, 22, 23, 24, 25, 26, 27, 28, 29, 30, 31, 32, 33, 34, 35, 36, 37, 38, 39, 40, 41, 42, 43, 44, 45, 46, 47, 48, 49, 50, 51, 52, 53, 54, 55, 56, 57, 58, 59, 60, 61] rfl rfl (by decide) (by decide) (va_runS (As := [.int y]) (rest := []) ⟨hx, hb, hml, hown, hts⟩ (k_X9_isLane l dC dI h cs H.size I L A Q G J y) (va_cwS 1 hts gX9_refusal_X9_isLane rfl rfl rfl (by decide +kernel) ⟨Nat.le_of_ble_eq_true rfl, Nat.le_of_ble_eq_true rfl⟩) (xpS (wc := ([] : va_W)) hP hD hK hN [] rfl (by decide) _) rfl rfl hl.1 rfl (lv_room (Nat.le_of_ble_eq_true rfl)) dX9_refusal_8 ⟨Nat.zero_le _, Nat.zero_le _⟩) (fun r_32 u_31 H locs hw hP hD hS => ?_)
        obtain ⟨hf_33, rfl⟩ := hw
        have hP : va_P (dC, dI) vwCl (wAll h cs fI fL fA fQ fG fJ) H := hP
        have hD : va_D A0 (wAll h cs fI fL fA fQ fG fJ) := hD
        rcases hf_33 with ⟨rfl, i_34, hh_35, ee_36⟩ | ⟨rfl, -⟩
        · skip
          exact absurd (by rw [ee_36, nI_toInt (by omega)]; omega) hz_y
        · skip
          refine lv_if_ne (tgt := 16) hx hb dX9_refusal_11 (by decide) (fun c9 => False.elim (by revert c9; decide +kernel)) (fun _ => ?_)
          refine lv_iconst (v := (-1)) hx hb dX9_refusal_14 (by decide) ?_
          exact xr_i (v := (-1)) hx hb hr hlocks hK hS dX9_refusal_15 (fI, fL, fA, fQ, fG, fJ) ⟨(by unfold an_item; rw [if_neg (by omega)]), rfl⟩ hP hD
    · skip
      rcases splR y 0 2 (by decide) with ⟨i_y, h_y, g_y, rfl⟩ | hz_y
      · skip
        rcases (show i_y = 0 ∨ i_y = 1 ∨ i_y = 2 by omega) with rfl | rfl | rfl
        · skip
          refine lv_iload_n hx hb dX9_refusal_0 rfl (lv_at hl 1 rfl) ?_
          refine xj_i (wc := ([] : va_W)) (wr := (wAll h cs fI fL fA fQ fG fJ)) hP hD hS hA [] [0, 1, 2, 3, 4, 5, 6, 7, 8, 9, 10, 11, 12, 13, 14, 15, 16, 17, 18, 19, 20, 21, 22, 23, 24, 25, 26, 27, 28, 29, 30, 31, 32, 33, 34, 35, 36, 37, 38, 39, 40, 41, 42, 43, 44, 45, 46, 47, 48, 49, 50, 51, 52, 53, 54, 55, 56, 57, 58, 59, 60, 61] rfl rfl (by decide) (by decide) (va_runS (As := [.int (nI 1)]) (rest := []) ⟨hx, hb, hml, hown, hts⟩ (a_X9_isSheet_135 l dC dI h cs H.size I L A Q G J ) (va_cwS 1 hts gX9_refusal_X9_isSheet rfl rfl rfl (by decide +kernel) ⟨Nat.le_of_ble_eq_true rfl, Nat.le_of_ble_eq_true rfl⟩) (xpS (wc := ([] : va_W)) hP hD hK hN [] rfl (by decide) _) rfl rfl hl.1 rfl (lv_room (Nat.le_of_ble_eq_true rfl)) dX9_refusal_1 ⟨Nat.zero_le _, Nat.zero_le _⟩) (fun r_38 u_37 H locs hw hP hD hS => ?_)
          obtain ⟨hf_39, rfl⟩ := hw
          have hP : va_P (dC, dI) vwCl (wAll h cs fI fL fA fQ fG fJ) H := hP
          have hD : va_D A0 (wAll h cs fI fL fA fQ fG fJ) := hD
          obtain rfl := hf_39
          refine lv_if_eq (tgt := 14) hx hb dX9_refusal_4 (by decide) (fun c9 => False.elim (by revert c9; decide +kernel)) (fun _ => ?_)
          refine lv_iload_n hx hb dX9_refusal_7 rfl (lv_at hl 2 rfl) ?_
          refine xj_i (wc := ([] : va_W)) (wr := (wAll h cs fI fL fA fQ fG fJ)) hP hD hS hA [] [0, 1, 2, 3, 4, 5, 6, 7, 8, 9, 10, 11, 12, 13, 14, 15, 16, 17, 18, 19, 20, 21, 22, 23, 24, 25, 26, 27, 28, 29, 30, 31, 32, 33, 34, 35, 36, 37, 38, 39, 40, 41, 42, 43, 44, 45, 46, 47, 48, 49, 50, 51, 52, 53, 54, 55, 56, 57, 58, 59, 60, 61] rfl rfl (by decide) (by decide) (va_runS (As := [.int (nI 0)]) (rest := []) ⟨hx, hb, hml, hown, hts⟩ (a_X9_isLane_174 l dC dI h cs H.size I L A Q G J ) (va_cwS 1 hts gX9_refusal_X9_isLane rfl rfl rfl (by decide +kernel) ⟨Nat.le_of_ble_eq_true rfl, Nat.le_of_ble_eq_true rfl⟩) (xpS (wc := ([] : va_W)) hP hD hK hN [] rfl (by decide) _) rfl rfl hl.1 rfl (lv_room (Nat.le_of_ble_eq_true rfl)) dX9_refusal_8 ⟨Nat.zero_le _, Nat.zero_le _⟩) (fun r_41 u_40 H locs hw hP hD hS => ?_)
          obtain ⟨hf_42, rfl⟩ := hw
          have hP : va_P (dC, dI) vwCl (wAll h cs fI fL fA fQ fG fJ) H := hP
          have hD : va_D A0 (wAll h cs fI fL fA fQ fG fJ) := hD
          obtain rfl := hf_42
          refine lv_if_ne (tgt := 16) hx hb dX9_refusal_11 (by decide) (fun _ => ?_) (fun c9 => False.elim (by revert c9; decide +kernel))
          refine lv_aload_n hx hb dX9_refusal_16 rfl (lv_at hl 0 rfl) ?_
          refine va_get (D := (dC, dI)) (ci := 9) (v := .ref (h 109)) (C := RX9) (T := TX9) (N := 9) hx hb hts hinX9 hown hK hP 0 rfl rfl 8 (by decide) (hts (.fieldLink RX9 71 "MixedWords" "sheets" "[LMixedWords$Sheet;") (by decide +kernel)) (fun _ h9 => h9) rfl dX9_refusal_17 ?_
          refine lv_iload_n hx hb dX9_refusal_20 rfl (lv_at hl 1 rfl) ?_
          refine xa_aald (b := h 111) hx hb hK hP 53 5 rfl rfl rfl (by omega) (by decide) (if_pos (by omega)) dX9_refusal_21 ?_
          refine xj_i (wc := (wD_136 h cs fI fL fA fQ fG fJ)) (wr := [(h 100, .inr (9, [.ref (h 101), .ref (h 102), .ref (h 103), .ref (h 104), .ref (h 105), .ref (h 106), .ref (h 107), .ref (h 108), .ref (h 109)])), (h 101, .inr (3, [.int (fI 120), .int (fI 121), .int (fI 122), .int (fI 123), .ref (h 130), .ref (h 136)])), (h 130, .inl (cs 3, 5, .inr (.inr (.inr (.inr (fun i => if i < 5 then some (h (i + 131)) else none)))))), (h 131, .inl (cs 0, 4, .inl ((fG 0) 0))), (h 132, .inl (cs 0, 4, .inl ((fG 0) 1))), (h 133, .inl (cs 0, 4, .inl ((fG 0) 2))), (h 134, .inl (cs 0, 4, .inl ((fG 0) 3))), (h 135, .inl (cs 0, 4, .inl ((fG 0) 4))), (h 136, .inl (cs 0, 5, .inl (fA 136))), (h 102, .inr (0, [.ref (h 101), .ref (h 140), .ref (h 141), .ref (h 142), .ref (h 143), .int (fI 144), .int (fI 145), .int (fI 146)])), (h 140, .inl (cs 0, 40, .inl (fA 140))), (h 141, .inl (cs 0, 40, .inl (fA 141))), (h 142, .inl (cs 0, 40, .inl (fA 142))), (h 143, .inl (cs 0, 40, .inl (fA 143))), (h 103, .inr (7, [.ref (h 150), .int (fI 151)])), (h 150, .inl (cs 2, 90, .inl (fA 150))), (h 104, .inr (4, [.ref (h 103), .ref (h 160), .int (fI 166), .int (fI 167), .int (fI 168), .int (fI 169)])), (h 160, .inl (cs 3, 5, .inr (.inr (.inr (.inr (fun i => if i < 5 then some (h (i + 161)) else none)))))), (h 161, .inl (cs 0, 4, .inl ((fG 1) 0))), (h 162, .inl (cs 0, 4, .inl ((fG 1) 1))), (h 163, .inl (cs 0, 4, .inl ((fG 1) 2))), (h 164, .inl (cs 0, 4, .inl ((fG 1) 3))), (h 165, .inl (cs 0, 4, .inl ((fG 1) 4))), (h 105, .inr (8, [.ref (h 101), .ref (h 170), .ref (h 171), .ref (h 172), .int (fI 173), .int (fI 174)])), (h 170, .inl (cs 0, 256, .inl (fA 170))), (h 171, .inl (cs 0, 256, .inl (fA 171))), (h 172, .inl (cs 0, 256, .inl (fA 172))), (h 106, .inr (2, [.ref (h 180), .ref (h 185), .ref (h 186), .ref (h 187), .long (fL 188)])), (h 180, .inl (cs 4, 4, .inr (.inr (.inr (.inr (fun i => if i < 4 then some (h (i + 181)) else none)))))), (h 181, .inl (cs 1, 4, .inr (.inl ((fJ 0) 0)))), (h 182, .inl (cs 1, 4, .inr (.inl ((fJ 0) 1)))), (h 183, .inl (cs 1, 4, .inr (.inl ((fJ 0) 2)))), (h 184, .inl (cs 1, 4, .inr (.inl ((fJ 0) 3)))), (h 185, .inl (cs 1, 4, .inr (.inl (fQ 185)))), (h 186, .inl (cs 0, 4, .inl (fA 186))), (h 187, .inl (cs 1, 4, .inr (.inl (fQ 187)))), (h 107, .inr (6, [.ref (h 101), .ref (h 190), .ref (h 191), .ref (h 192)])), (h 190, .inl (cs 0, 5, .inl (fA 190))), (h 191, .inl (cs 0, 4, .inl (fA 191))), (h 192, .inl (cs 0, 4, .inl (fA 192))), (h 108, .inr (1, [.ref (h 101), .ref (h 200), .ref (h 206), .ref (h 211), .int (fI 212), .int (fI 213)])), (h 200, .inl (cs 3, 5, .inr (.inr (.inr (.inr (fun i => if i < 5 then some (h (i + 201)) else none)))))), (h 201, .inl (cs 0, 4, .inl ((fG 2) 0))), (h 202, .inl (cs 0, 4, .inl ((fG 2) 1))), (h 203, .inl (cs 0, 4, .inl ((fG 2) 2))), (h 204, .inl (cs 0, 4, .inl ((fG 2) 3))), (h 205, .inl (cs 0, 4, .inl ((fG 2) 4))), (h 206, .inl (cs 3, 4, .inr (.inr (.inr (.inr (fun i => if i < 4 then some (h (i + 207)) else none)))))), (h 207, .inl (cs 0, 4, .inl ((fG 3) 0))), (h 208, .inl (cs 0, 4, .inl ((fG 3) 1))), (h 209, .inl (cs 0, 4, .inl ((fG 3) 2))), (h 210, .inl (cs 0, 4, .inl ((fG 3) 3))), (h 211, .inl (cs 0, 5, .inl (fA 211))), (h 109, .inl (cs 5, 4, .inr (.inr (.inr (.inr (fun i => if i < 4 then some (h (i + 110)) else none)))))), (h 110, .inr (5, [.int (fI 220), .int (fI 224), .ref (h 228)])), (h 228, .inl (cs 1, 25, .inr (.inl (fQ 228)))), (h 112, .inr (5, [.int (fI 222), .int (fI 226), .ref (h 230)])), (h 230, .inl (cs 1, 25, .inr (.inl (fQ 230)))), (h 113, .inr (5, [.int (fI 223), .int (fI 227), .ref (h 231)])), (h 231, .inl (cs 1, 25, .inr (.inl (fQ 231))))]) hP hD hS hA [56, 57] [0, 1, 2, 3, 4, 5, 6, 7, 8, 9, 10, 11, 12, 13, 14, 15, 16, 17, 18, 19, 20, 21, 22, 23, 24, 25, 26, 27, 28, 29, 30, 31, 32, 33, 34, 35, 36, 37, 38, 39, 40, 41, 42, 43, 44, 45, 46, 47, 48, 49, 50, 51, 52, 53, 54, 55, 58, 59, 60, 61] rfl rfl (by decide) (by decide) (va_runV (As := []) (rest := []) ⟨hx, hb, hml, hown, hts⟩ (a_X5_holds_137 l dC dI h cs H.size fI fL fA fQ fG fJ ) (cwV 0 hts gX9_refusal_X5_holds rfl rfl rfl (by decide +kernel) ⟨Nat.le_of_ble_eq_true rfl, Nat.le_of_ble_eq_true rfl⟩) (xpV (wc := (wD_136 h cs fI fL fA fQ fG fJ)) hP hD hK hN [56, 57] rfl (by decide) 56 (ci := 5) rfl rfl _) rfl rfl hl.1 rfl (lv_room (Nat.le_of_ble_eq_true rfl)) dX9_refusal_22 ⟨Nat.zero_le _, Nat.zero_le _⟩) (fun r_44 u_43 H locs hw hP hD hS => ?_)
          obtain ⟨hf_45, rfl⟩ := hw
          have hP : va_P (dC, dI) vwCl (wAll h cs fI fL fA fQ fG fJ) H := xP_sub hP [0, 1, 2, 3, 4, 5, 6, 7, 8, 9, 10, 11, 12, 13, 14, 15, 16, 17, 18, 19, 20, 21, 22, 23, 24, 25, 26, 27, 28, 29, 30, 31, 32, 33, 34, 35, 36, 37, 38, 39, 40, 41, 42, 43, 44, 45, 46, 47, 48, 49, 50, 51, 52, 53, 54, 55, 60, 61, 56, 57, 58, 59] rfl
          have hD : va_D A0 (wAll h cs fI fL fA fQ fG fJ) := hD.sub [0, 1, 2, 3, 4, 5, 6, 7, 8, 9, 10, 11, 12, 13, 14, 15, 16, 17, 18, 19, 20, 21, 22, 23, 24, 25, 26, 27, 28, 29, 30, 31, 32, 33, 34, 35, 36, 37, 38, 39, 40, 41, 42, 43, 44, 45, 46, 47, 48, 49, 50, 51, 52, 53, 54, 55, 60, 61, 56, 57, 58, 59] (by decide) rfl
          obtain rfl := hf_45
          refine lv_if_ne (tgt := 31) hx hb dX9_refusal_25 (by decide) (fun c9 => False.elim (by revert c9; decide +kernel)) (fun _ => ?_)
          refine lv_bipush (v := (-11)) hx hb dX9_refusal_28 (by decide) ?_
          exact xr_i (v := (-11)) hx hb hr hlocks hK hS dX9_refusal_30 (fI, fL, fA, fQ, fG, fJ) ⟨(by decide +kernel), rfl⟩ hP hD
        · skip
          refine lv_iload_n hx hb dX9_refusal_0 rfl (lv_at hl 1 rfl) ?_
          refine xj_i (wc := ([] : va_W)) (wr := (wAll h cs fI fL fA fQ fG fJ)) hP hD hS hA [] [0, 1, 2, 3, 4, 5, 6, 7, 8, 9, 10, 11, 12, 13, 14, 15, 16, 17, 18, 19, 20, 21, 22, 23, 24, 25, 26, 27, 28, 29, 30, 31, 32, 33, 34, 35, 36, 37, 38, 39, 40, 41, 42, 43, 44, 45, 46, 47, 48, 49, 50, 51, 52, 53, 54, 55, 56, 57, 58, 59, 60, 61] rfl rfl (by decide) (by decide) (va_runS (As := [.int (nI 1)]) (rest := []) ⟨hx, hb, hml, hown, hts⟩ (a_X9_isSheet_135 l dC dI h cs H.size I L A Q G J ) (va_cwS 1 hts gX9_refusal_X9_isSheet rfl rfl rfl (by decide +kernel) ⟨Nat.le_of_ble_eq_true rfl, Nat.le_of_ble_eq_true rfl⟩) (xpS (wc := ([] : va_W)) hP hD hK hN [] rfl (by decide) _) rfl rfl hl.1 rfl (lv_room (Nat.le_of_ble_eq_true rfl)) dX9_refusal_1 ⟨Nat.zero_le _, Nat.zero_le _⟩) (fun r_47 u_46 H locs hw hP hD hS => ?_)
          obtain ⟨hf_48, rfl⟩ := hw
          have hP : va_P (dC, dI) vwCl (wAll h cs fI fL fA fQ fG fJ) H := hP
          have hD : va_D A0 (wAll h cs fI fL fA fQ fG fJ) := hD
          obtain rfl := hf_48
          refine lv_if_eq (tgt := 14) hx hb dX9_refusal_4 (by decide) (fun c9 => False.elim (by revert c9; decide +kernel)) (fun _ => ?_)
          refine lv_iload_n hx hb dX9_refusal_7 rfl (lv_at hl 2 rfl) ?_
          refine xj_i (wc := ([] : va_W)) (wr := (wAll h cs fI fL fA fQ fG fJ)) hP hD hS hA [] [0, 1, 2, 3, 4, 5, 6, 7, 8, 9, 10, 11, 12, 13, 14, 15, 16, 17, 18, 19, 20, 21, 22, 23, 24, 25, 26, 27, 28, 29, 30, 31, 32, 33, 34, 35, 36, 37, 38, 39, 40, 41, 42, 43, 44, 45, 46, 47, 48, 49, 50, 51, 52, 53, 54, 55, 56, 57, 58, 59, 60, 61] rfl rfl (by decide) (by decide) (va_runS (As := [.int (nI 1)]) (rest := []) ⟨hx, hb, hml, hown, hts⟩ (a_X9_isLane_175 l dC dI h cs H.size I L A Q G J ) (va_cwS 1 hts gX9_refusal_X9_isLane rfl rfl rfl (by decide +kernel) ⟨Nat.le_of_ble_eq_true rfl, Nat.le_of_ble_eq_true rfl⟩) (xpS (wc := ([] : va_W)) hP hD hK hN [] rfl (by decide) _) rfl rfl hl.1 rfl (lv_room (Nat.le_of_ble_eq_true rfl)) dX9_refusal_8 ⟨Nat.zero_le _, Nat.zero_le _⟩) (fun r_50 u_49 H locs hw hP hD hS => ?_)
          obtain ⟨hf_51, rfl⟩ := hw
          have hP : va_P (dC, dI) vwCl (wAll h cs fI fL fA fQ fG fJ) H := hP
          have hD : va_D A0 (wAll h cs fI fL fA fQ fG fJ) := hD
          obtain rfl := hf_51
          refine lv_if_ne (tgt := 16) hx hb dX9_refusal_11 (by decide) (fun _ => ?_) (fun c9 => False.elim (by revert c9; decide +kernel))
          refine lv_aload_n hx hb dX9_refusal_16 rfl (lv_at hl 0 rfl) ?_
          refine va_get (D := (dC, dI)) (ci := 9) (v := .ref (h 109)) (C := RX9) (T := TX9) (N := 9) hx hb hts hinX9 hown hK hP 0 rfl rfl 8 (by decide) (hts (.fieldLink RX9 71 "MixedWords" "sheets" "[LMixedWords$Sheet;") (by decide +kernel)) (fun _ h9 => h9) rfl dX9_refusal_17 ?_
          refine lv_iload_n hx hb dX9_refusal_20 rfl (lv_at hl 1 rfl) ?_
          refine xa_aald (b := h 111) hx hb hK hP 53 5 rfl rfl rfl (by omega) (by decide) (if_pos (by omega)) dX9_refusal_21 ?_
          refine xj_i (wc := (wD_136 h cs fI fL fA fQ fG fJ)) (wr := [(h 100, .inr (9, [.ref (h 101), .ref (h 102), .ref (h 103), .ref (h 104), .ref (h 105), .ref (h 106), .ref (h 107), .ref (h 108), .ref (h 109)])), (h 101, .inr (3, [.int (fI 120), .int (fI 121), .int (fI 122), .int (fI 123), .ref (h 130), .ref (h 136)])), (h 130, .inl (cs 3, 5, .inr (.inr (.inr (.inr (fun i => if i < 5 then some (h (i + 131)) else none)))))), (h 131, .inl (cs 0, 4, .inl ((fG 0) 0))), (h 132, .inl (cs 0, 4, .inl ((fG 0) 1))), (h 133, .inl (cs 0, 4, .inl ((fG 0) 2))), (h 134, .inl (cs 0, 4, .inl ((fG 0) 3))), (h 135, .inl (cs 0, 4, .inl ((fG 0) 4))), (h 136, .inl (cs 0, 5, .inl (fA 136))), (h 102, .inr (0, [.ref (h 101), .ref (h 140), .ref (h 141), .ref (h 142), .ref (h 143), .int (fI 144), .int (fI 145), .int (fI 146)])), (h 140, .inl (cs 0, 40, .inl (fA 140))), (h 141, .inl (cs 0, 40, .inl (fA 141))), (h 142, .inl (cs 0, 40, .inl (fA 142))), (h 143, .inl (cs 0, 40, .inl (fA 143))), (h 103, .inr (7, [.ref (h 150), .int (fI 151)])), (h 150, .inl (cs 2, 90, .inl (fA 150))), (h 104, .inr (4, [.ref (h 103), .ref (h 160), .int (fI 166), .int (fI 167), .int (fI 168), .int (fI 169)])), (h 160, .inl (cs 3, 5, .inr (.inr (.inr (.inr (fun i => if i < 5 then some (h (i + 161)) else none)))))), (h 161, .inl (cs 0, 4, .inl ((fG 1) 0))), (h 162, .inl (cs 0, 4, .inl ((fG 1) 1))), (h 163, .inl (cs 0, 4, .inl ((fG 1) 2))), (h 164, .inl (cs 0, 4, .inl ((fG 1) 3))), (h 165, .inl (cs 0, 4, .inl ((fG 1) 4))), (h 105, .inr (8, [.ref (h 101), .ref (h 170), .ref (h 171), .ref (h 172), .int (fI 173), .int (fI 174)])), (h 170, .inl (cs 0, 256, .inl (fA 170))), (h 171, .inl (cs 0, 256, .inl (fA 171))), (h 172, .inl (cs 0, 256, .inl (fA 172))), (h 106, .inr (2, [.ref (h 180), .ref (h 185), .ref (h 186), .ref (h 187), .long (fL 188)])), (h 180, .inl (cs 4, 4, .inr (.inr (.inr (.inr (fun i => if i < 4 then some (h (i + 181)) else none)))))), (h 181, .inl (cs 1, 4, .inr (.inl ((fJ 0) 0)))), (h 182, .inl (cs 1, 4, .inr (.inl ((fJ 0) 1)))), (h 183, .inl (cs 1, 4, .inr (.inl ((fJ 0) 2)))), (h 184, .inl (cs 1, 4, .inr (.inl ((fJ 0) 3)))), (h 185, .inl (cs 1, 4, .inr (.inl (fQ 185)))), (h 186, .inl (cs 0, 4, .inl (fA 186))), (h 187, .inl (cs 1, 4, .inr (.inl (fQ 187)))), (h 107, .inr (6, [.ref (h 101), .ref (h 190), .ref (h 191), .ref (h 192)])), (h 190, .inl (cs 0, 5, .inl (fA 190))), (h 191, .inl (cs 0, 4, .inl (fA 191))), (h 192, .inl (cs 0, 4, .inl (fA 192))), (h 108, .inr (1, [.ref (h 101), .ref (h 200), .ref (h 206), .ref (h 211), .int (fI 212), .int (fI 213)])), (h 200, .inl (cs 3, 5, .inr (.inr (.inr (.inr (fun i => if i < 5 then some (h (i + 201)) else none)))))), (h 201, .inl (cs 0, 4, .inl ((fG 2) 0))), (h 202, .inl (cs 0, 4, .inl ((fG 2) 1))), (h 203, .inl (cs 0, 4, .inl ((fG 2) 2))), (h 204, .inl (cs 0, 4, .inl ((fG 2) 3))), (h 205, .inl (cs 0, 4, .inl ((fG 2) 4))), (h 206, .inl (cs 3, 4, .inr (.inr (.inr (.inr (fun i => if i < 4 then some (h (i + 207)) else none)))))), (h 207, .inl (cs 0, 4, .inl ((fG 3) 0))), (h 208, .inl (cs 0, 4, .inl ((fG 3) 1))), (h 209, .inl (cs 0, 4, .inl ((fG 3) 2))), (h 210, .inl (cs 0, 4, .inl ((fG 3) 3))), (h 211, .inl (cs 0, 5, .inl (fA 211))), (h 109, .inl (cs 5, 4, .inr (.inr (.inr (.inr (fun i => if i < 4 then some (h (i + 110)) else none)))))), (h 110, .inr (5, [.int (fI 220), .int (fI 224), .ref (h 228)])), (h 228, .inl (cs 1, 25, .inr (.inl (fQ 228)))), (h 112, .inr (5, [.int (fI 222), .int (fI 226), .ref (h 230)])), (h 230, .inl (cs 1, 25, .inr (.inl (fQ 230)))), (h 113, .inr (5, [.int (fI 223), .int (fI 227), .ref (h 231)])), (h 231, .inl (cs 1, 25, .inr (.inl (fQ 231))))]) hP hD hS hA [56, 57] [0, 1, 2, 3, 4, 5, 6, 7, 8, 9, 10, 11, 12, 13, 14, 15, 16, 17, 18, 19, 20, 21, 22, 23, 24, 25, 26, 27, 28, 29, 30, 31, 32, 33, 34, 35, 36, 37, 38, 39, 40, 41, 42, 43, 44, 45, 46, 47, 48, 49, 50, 51, 52, 53, 54, 55, 58, 59, 60, 61] rfl rfl (by decide) (by decide) (va_runV (As := []) (rest := []) ⟨hx, hb, hml, hown, hts⟩ (a_X5_holds_137 l dC dI h cs H.size fI fL fA fQ fG fJ ) (cwV 0 hts gX9_refusal_X5_holds rfl rfl rfl (by decide +kernel) ⟨Nat.le_of_ble_eq_true rfl, Nat.le_of_ble_eq_true rfl⟩) (xpV (wc := (wD_136 h cs fI fL fA fQ fG fJ)) hP hD hK hN [56, 57] rfl (by decide) 56 (ci := 5) rfl rfl _) rfl rfl hl.1 rfl (lv_room (Nat.le_of_ble_eq_true rfl)) dX9_refusal_22 ⟨Nat.zero_le _, Nat.zero_le _⟩) (fun r_53 u_52 H locs hw hP hD hS => ?_)
          obtain ⟨hf_54, rfl⟩ := hw
          have hP : va_P (dC, dI) vwCl (wAll h cs fI fL fA fQ fG fJ) H := xP_sub hP [0, 1, 2, 3, 4, 5, 6, 7, 8, 9, 10, 11, 12, 13, 14, 15, 16, 17, 18, 19, 20, 21, 22, 23, 24, 25, 26, 27, 28, 29, 30, 31, 32, 33, 34, 35, 36, 37, 38, 39, 40, 41, 42, 43, 44, 45, 46, 47, 48, 49, 50, 51, 52, 53, 54, 55, 60, 61, 56, 57, 58, 59] rfl
          have hD : va_D A0 (wAll h cs fI fL fA fQ fG fJ) := hD.sub [0, 1, 2, 3, 4, 5, 6, 7, 8, 9, 10, 11, 12, 13, 14, 15, 16, 17, 18, 19, 20, 21, 22, 23, 24, 25, 26, 27, 28, 29, 30, 31, 32, 33, 34, 35, 36, 37, 38, 39, 40, 41, 42, 43, 44, 45, 46, 47, 48, 49, 50, 51, 52, 53, 54, 55, 60, 61, 56, 57, 58, 59] (by decide) rfl
          obtain rfl := hf_54
          refine lv_if_ne (tgt := 31) hx hb dX9_refusal_25 (by decide) (fun c9 => False.elim (by revert c9; decide +kernel)) (fun _ => ?_)
          refine lv_bipush (v := (-11)) hx hb dX9_refusal_28 (by decide) ?_
          exact xr_i (v := (-11)) hx hb hr hlocks hK hS dX9_refusal_30 (fI, fL, fA, fQ, fG, fJ) ⟨(by decide +kernel), rfl⟩ hP hD
        · skip
          refine lv_iload_n hx hb dX9_refusal_0 rfl (lv_at hl 1 rfl) ?_
          refine xj_i (wc := ([] : va_W)) (wr := (wAll h cs fI fL fA fQ fG fJ)) hP hD hS hA [] [0, 1, 2, 3, 4, 5, 6, 7, 8, 9, 10, 11, 12, 13, 14, 15, 16, 17, 18, 19, 20, 21, 22, 23, 24, 25, 26, 27, 28, 29, 30, 31, 32, 33, 34, 35, 36, 37, 38, 39, 40, 41, 42, 43, 44, 45, 46, 47, 48, 49, 50, 51, 52, 53, 54, 55, 56, 57, 58, 59, 60, 61] rfl rfl (by decide) (by decide) (va_runS (As := [.int (nI 1)]) (rest := []) ⟨hx, hb, hml, hown, hts⟩ (a_X9_isSheet_135 l dC dI h cs H.size I L A Q G J ) (va_cwS 1 hts gX9_refusal_X9_isSheet rfl rfl rfl (by decide +kernel) ⟨Nat.le_of_ble_eq_true rfl, Nat.le_of_ble_eq_true rfl⟩) (xpS (wc := ([] : va_W)) hP hD hK hN [] rfl (by decide) _) rfl rfl hl.1 rfl (lv_room (Nat.le_of_ble_eq_true rfl)) dX9_refusal_1 ⟨Nat.zero_le _, Nat.zero_le _⟩) (fun r_56 u_55 H locs hw hP hD hS => ?_)
          obtain ⟨hf_57, rfl⟩ := hw
          have hP : va_P (dC, dI) vwCl (wAll h cs fI fL fA fQ fG fJ) H := hP
          have hD : va_D A0 (wAll h cs fI fL fA fQ fG fJ) := hD
          obtain rfl := hf_57
          refine lv_if_eq (tgt := 14) hx hb dX9_refusal_4 (by decide) (fun c9 => False.elim (by revert c9; decide +kernel)) (fun _ => ?_)
          refine lv_iload_n hx hb dX9_refusal_7 rfl (lv_at hl 2 rfl) ?_
          refine xj_i (wc := ([] : va_W)) (wr := (wAll h cs fI fL fA fQ fG fJ)) hP hD hS hA [] [0, 1, 2, 3, 4, 5, 6, 7, 8, 9, 10, 11, 12, 13, 14, 15, 16, 17, 18, 19, 20, 21, 22, 23, 24, 25, 26, 27, 28, 29, 30, 31, 32, 33, 34, 35, 36, 37, 38, 39, 40, 41, 42, 43, 44, 45, 46, 47, 48, 49, 50, 51, 52, 53, 54, 55, 56, 57, 58, 59, 60, 61] rfl rfl (by decide) (by decide) (va_runS (As := [.int (nI 2)]) (rest := []) ⟨hx, hb, hml, hown, hts⟩ (a_X9_isLane_176 l dC dI h cs H.size I L A Q G J ) (va_cwS 1 hts gX9_refusal_X9_isLane rfl rfl rfl (by decide +kernel) ⟨Nat.le_of_ble_eq_true rfl, Nat.le_of_ble_eq_true rfl⟩) (xpS (wc := ([] : va_W)) hP hD hK hN [] rfl (by decide) _) rfl rfl hl.1 rfl (lv_room (Nat.le_of_ble_eq_true rfl)) dX9_refusal_8 ⟨Nat.zero_le _, Nat.zero_le _⟩) (fun r_59 u_58 H locs hw hP hD hS => ?_)
          obtain ⟨hf_60, rfl⟩ := hw
          have hP : va_P (dC, dI) vwCl (wAll h cs fI fL fA fQ fG fJ) H := hP
          have hD : va_D A0 (wAll h cs fI fL fA fQ fG fJ) := hD
          obtain rfl := hf_60
          refine lv_if_ne (tgt := 16) hx hb dX9_refusal_11 (by decide) (fun _ => ?_) (fun c9 => False.elim (by revert c9; decide +kernel))
          refine lv_aload_n hx hb dX9_refusal_16 rfl (lv_at hl 0 rfl) ?_
          refine va_get (D := (dC, dI)) (ci := 9) (v := .ref (h 109)) (C := RX9) (T := TX9) (N := 9) hx hb hts hinX9 hown hK hP 0 rfl rfl 8 (by decide) (hts (.fieldLink RX9 71 "MixedWords" "sheets" "[LMixedWords$Sheet;") (by decide +kernel)) (fun _ h9 => h9) rfl dX9_refusal_17 ?_
          refine lv_iload_n hx hb dX9_refusal_20 rfl (lv_at hl 1 rfl) ?_
          refine xa_aald (b := h 111) hx hb hK hP 53 5 rfl rfl rfl (by omega) (by decide) (if_pos (by omega)) dX9_refusal_21 ?_
          refine xj_i (wc := (wD_136 h cs fI fL fA fQ fG fJ)) (wr := [(h 100, .inr (9, [.ref (h 101), .ref (h 102), .ref (h 103), .ref (h 104), .ref (h 105), .ref (h 106), .ref (h 107), .ref (h 108), .ref (h 109)])), (h 101, .inr (3, [.int (fI 120), .int (fI 121), .int (fI 122), .int (fI 123), .ref (h 130), .ref (h 136)])), (h 130, .inl (cs 3, 5, .inr (.inr (.inr (.inr (fun i => if i < 5 then some (h (i + 131)) else none)))))), (h 131, .inl (cs 0, 4, .inl ((fG 0) 0))), (h 132, .inl (cs 0, 4, .inl ((fG 0) 1))), (h 133, .inl (cs 0, 4, .inl ((fG 0) 2))), (h 134, .inl (cs 0, 4, .inl ((fG 0) 3))), (h 135, .inl (cs 0, 4, .inl ((fG 0) 4))), (h 136, .inl (cs 0, 5, .inl (fA 136))), (h 102, .inr (0, [.ref (h 101), .ref (h 140), .ref (h 141), .ref (h 142), .ref (h 143), .int (fI 144), .int (fI 145), .int (fI 146)])), (h 140, .inl (cs 0, 40, .inl (fA 140))), (h 141, .inl (cs 0, 40, .inl (fA 141))), (h 142, .inl (cs 0, 40, .inl (fA 142))), (h 143, .inl (cs 0, 40, .inl (fA 143))), (h 103, .inr (7, [.ref (h 150), .int (fI 151)])), (h 150, .inl (cs 2, 90, .inl (fA 150))), (h 104, .inr (4, [.ref (h 103), .ref (h 160), .int (fI 166), .int (fI 167), .int (fI 168), .int (fI 169)])), (h 160, .inl (cs 3, 5, .inr (.inr (.inr (.inr (fun i => if i < 5 then some (h (i + 161)) else none)))))), (h 161, .inl (cs 0, 4, .inl ((fG 1) 0))), (h 162, .inl (cs 0, 4, .inl ((fG 1) 1))), (h 163, .inl (cs 0, 4, .inl ((fG 1) 2))), (h 164, .inl (cs 0, 4, .inl ((fG 1) 3))), (h 165, .inl (cs 0, 4, .inl ((fG 1) 4))), (h 105, .inr (8, [.ref (h 101), .ref (h 170), .ref (h 171), .ref (h 172), .int (fI 173), .int (fI 174)])), (h 170, .inl (cs 0, 256, .inl (fA 170))), (h 171, .inl (cs 0, 256, .inl (fA 171))), (h 172, .inl (cs 0, 256, .inl (fA 172))), (h 106, .inr (2, [.ref (h 180), .ref (h 185), .ref (h 186), .ref (h 187), .long (fL 188)])), (h 180, .inl (cs 4, 4, .inr (.inr (.inr (.inr (fun i => if i < 4 then some (h (i + 181)) else none)))))), (h 181, .inl (cs 1, 4, .inr (.inl ((fJ 0) 0)))), (h 182, .inl (cs 1, 4, .inr (.inl ((fJ 0) 1)))), (h 183, .inl (cs 1, 4, .inr (.inl ((fJ 0) 2)))), (h 184, .inl (cs 1, 4, .inr (.inl ((fJ 0) 3)))), (h 185, .inl (cs 1, 4, .inr (.inl (fQ 185)))), (h 186, .inl (cs 0, 4, .inl (fA 186))), (h 187, .inl (cs 1, 4, .inr (.inl (fQ 187)))), (h 107, .inr (6, [.ref (h 101), .ref (h 190), .ref (h 191), .ref (h 192)])), (h 190, .inl (cs 0, 5, .inl (fA 190))), (h 191, .inl (cs 0, 4, .inl (fA 191))), (h 192, .inl (cs 0, 4, .inl (fA 192))), (h 108, .inr (1, [.ref (h 101), .ref (h 200), .ref (h 206), .ref (h 211), .int (fI 212), .int (fI 213)])), (h 200, .inl (cs 3, 5, .inr (.inr (.inr (.inr (fun i => if i < 5 then some (h (i + 201)) else none)))))), (h 201, .inl (cs 0, 4, .inl ((fG 2) 0))), (h 202, .inl (cs 0, 4, .inl ((fG 2) 1))), (h 203, .inl (cs 0, 4, .inl ((fG 2) 2))), (h 204, .inl (cs 0, 4, .inl ((fG 2) 3))), (h 205, .inl (cs 0, 4, .inl ((fG 2) 4))), (h 206, .inl (cs 3, 4, .inr (.inr (.inr (.inr (fun i => if i < 4 then some (h (i + 207)) else none)))))), (h 207, .inl (cs 0, 4, .inl ((fG 3) 0))), (h 208, .inl (cs 0, 4, .inl ((fG 3) 1))), (h 209, .inl (cs 0, 4, .inl ((fG 3) 2))), (h 210, .inl (cs 0, 4, .inl ((fG 3) 3))), (h 211, .inl (cs 0, 5, .inl (fA 211))), (h 109, .inl (cs 5, 4, .inr (.inr (.inr (.inr (fun i => if i < 4 then some (h (i + 110)) else none)))))), (h 110, .inr (5, [.int (fI 220), .int (fI 224), .ref (h 228)])), (h 228, .inl (cs 1, 25, .inr (.inl (fQ 228)))), (h 112, .inr (5, [.int (fI 222), .int (fI 226), .ref (h 230)])), (h 230, .inl (cs 1, 25, .inr (.inl (fQ 230)))), (h 113, .inr (5, [.int (fI 223), .int (fI 227), .ref (h 231)])), (h 231, .inl (cs 1, 25, .inr (.inl (fQ 231))))]) hP hD hS hA [56, 57] [0, 1, 2, 3, 4, 5, 6, 7, 8, 9, 10, 11, 12, 13, 14, 15, 16, 17, 18, 19, 20, 21, 22, 23, 24, 25, 26, 27, 28, 29, 30, 31, 32, 33, 34, 35, 36, 37, 38, 39, 40, 41, 42, 43, 44, 45, 46, 47, 48, 49, 50, 51, 52, 53, 54, 55, 58, 59, 60, 61] rfl rfl (by decide) (by decide) (va_runV (As := []) (rest := []) ⟨hx, hb, hml, hown, hts⟩ (a_X5_holds_137 l dC dI h cs H.size fI fL fA fQ fG fJ ) (cwV 0 hts gX9_refusal_X5_holds rfl rfl rfl (by decide +kernel) ⟨Nat.le_of_ble_eq_true rfl, Nat.le_of_ble_eq_true rfl⟩) (xpV (wc := (wD_136 h cs fI fL fA fQ fG fJ)) hP hD hK hN [56, 57] rfl (by decide) 56 (ci := 5) rfl rfl _) rfl rfl hl.1 rfl (lv_room (Nat.le_of_ble_eq_true rfl)) dX9_refusal_22 ⟨Nat.zero_le _, Nat.zero_le _⟩) (fun r_62 u_61 H locs hw hP hD hS => ?_)
          obtain ⟨hf_63, rfl⟩ := hw
          have hP : va_P (dC, dI) vwCl (wAll h cs fI fL fA fQ fG fJ) H := xP_sub hP [0, 1, 2, 3, 4, 5, 6, 7, 8, 9, 10, 11, 12, 13, 14, 15, 16, 17, 18, 19, 20, 21, 22, 23, 24, 25, 26, 27, 28, 29, 30, 31, 32, 33, 34, 35, 36, 37, 38, 39, 40, 41, 42, 43, 44, 45, 46, 47, 48, 49, 50, 51, 52, 53, 54, 55, 60, 61, 56, 57, 58, 59] rfl
          have hD : va_D A0 (wAll h cs fI fL fA fQ fG fJ) := hD.sub [0, 1, 2, 3, 4, 5, 6, 7, 8, 9, 10, 11, 12, 13, 14, 15, 16, 17, 18, 19, 20, 21, 22, 23, 24, 25, 26, 27, 28, 29, 30, 31, 32, 33, 34, 35, 36, 37, 38, 39, 40, 41, 42, 43, 44, 45, 46, 47, 48, 49, 50, 51, 52, 53, 54, 55, 60, 61, 56, 57, 58, 59] (by decide) rfl
          obtain rfl := hf_63
          refine lv_if_ne (tgt := 31) hx hb dX9_refusal_25 (by decide) (fun c9 => False.elim (by revert c9; decide +kernel)) (fun _ => ?_)
          refine lv_bipush (v := (-11)) hx hb dX9_refusal_28 (by decide) ?_
          exact xr_i (v := (-11)) hx hb hr hlocks hK hS dX9_refusal_30 (fI, fL, fA, fQ, fG, fJ) ⟨(by decide +kernel), rfl⟩ hP hD
      · skip
        refine lv_iload_n hx hb dX9_refusal_0 rfl (lv_at hl 1 rfl) ?_
        refine xj_i (wc := ([] : va_W)) (wr := (wAll h cs fI fL fA fQ fG fJ)) hP hD hS hA [] [0, 1, 2, 3, 4, 5, 6, 7, 8, 9, 10, 11, 12, 13, 14, 15, 16, 17, 18, 19, 20, 21, 22, 23, 24, 25, 26, 27, 28, 29, 30, 31, 32, 33, 34, 35, 36, 37, 38, 39, 40, 41, 42, 43, 44, 45, 46, 47, 48, 49, 50, 51, 52, 53, 54, 55, 56, 57, 58, 59, 60, 61] rfl rfl (by decide) (by decide) (va_runS (As := [.int (nI 1)]) (rest := []) ⟨hx, hb, hml, hown, hts⟩ (a_X9_isSheet_135 l dC dI h cs H.size I L A Q G J ) (va_cwS 1 hts gX9_refusal_X9_isSheet rfl rfl rfl (by decide +kernel) ⟨Nat.le_of_ble_eq_true rfl, Nat.le_of_ble_eq_true rfl⟩) (xpS (wc := ([] : va_W)) hP hD hK hN [] rfl (by decide) _) rfl rfl hl.1 rfl (lv_room (Nat.le_of_ble_eq_true rfl)) dX9_refusal_1 ⟨Nat.zero_le _, Nat.zero_le _⟩) (fun r_65 u_64 H locs hw hP hD hS => ?_)
        obtain ⟨hf_66, rfl⟩ := hw
        have hP : va_P (dC, dI) vwCl (wAll h cs fI fL fA fQ fG fJ) H := hP
        have hD : va_D A0 (wAll h cs fI fL fA fQ fG fJ) := hD
        obtain rfl := hf_66
        refine lv_if_eq (tgt := 14) hx hb dX9_refusal_4 (by decide) (fun c9 => False.elim (by revert c9; decide +kernel)) (fun _ => ?_)
        refine lv_iload_n hx hb dX9_refusal_7 rfl (lv_at hl 2 rfl) ?_
        refine xj_i (wc := ([] : va_W)) (wr := (wAll h cs fI fL fA fQ fG fJ)) hP hD hS hA [] [0, 1, 2, 3, 4, 5, 6, 7, 8, 9, 10, 11, 12, 13, 14, 15, 16, 17, 18, 19, 20, 21, 22, 23, 24, 25, 26, 27, 28, 29, 30, 31, 32, 33, 34, 35, 36, 37, 38, 39, 40, 41, 42, 43, 44, 45, 46, 47, 48, 49, 50, 51, 52, 53, 54, 55, 56, 57, 58, 59, 60, 61] rfl rfl (by decide) (by decide) (va_runS (As := [.int y]) (rest := []) ⟨hx, hb, hml, hown, hts⟩ (k_X9_isLane l dC dI h cs H.size I L A Q G J y) (va_cwS 1 hts gX9_refusal_X9_isLane rfl rfl rfl (by decide +kernel) ⟨Nat.le_of_ble_eq_true rfl, Nat.le_of_ble_eq_true rfl⟩) (xpS (wc := ([] : va_W)) hP hD hK hN [] rfl (by decide) _) rfl rfl hl.1 rfl (lv_room (Nat.le_of_ble_eq_true rfl)) dX9_refusal_8 ⟨Nat.zero_le _, Nat.zero_le _⟩) (fun r_68 u_67 H locs hw hP hD hS => ?_)
        obtain ⟨hf_69, rfl⟩ := hw
        have hP : va_P (dC, dI) vwCl (wAll h cs fI fL fA fQ fG fJ) H := hP
        have hD : va_D A0 (wAll h cs fI fL fA fQ fG fJ) := hD
        rcases hf_69 with ⟨rfl, i_70, hh_71, ee_72⟩ | ⟨rfl, -⟩
        · skip
          exact absurd (by rw [ee_72, nI_toInt (by omega)]; omega) hz_y
        · skip
          refine lv_if_ne (tgt := 16) hx hb dX9_refusal_11 (by decide) (fun c9 => False.elim (by revert c9; decide +kernel)) (fun _ => ?_)
          refine lv_iconst (v := (-1)) hx hb dX9_refusal_14 (by decide) ?_
          exact xr_i (v := (-1)) hx hb hr hlocks hK hS dX9_refusal_15 (fI, fL, fA, fQ, fG, fJ) ⟨(by unfold an_item; rw [if_neg (by omega)]), rfl⟩ hP hD
    · skip
      rcases splR y 0 2 (by decide) with ⟨i_y, h_y, g_y, rfl⟩ | hz_y
      · skip
        rcases (show i_y = 0 ∨ i_y = 1 ∨ i_y = 2 by omega) with rfl | rfl | rfl
        · skip
          refine lv_iload_n hx hb dX9_refusal_0 rfl (lv_at hl 1 rfl) ?_
          refine xj_i (wc := ([] : va_W)) (wr := (wAll h cs fI fL fA fQ fG fJ)) hP hD hS hA [] [0, 1, 2, 3, 4, 5, 6, 7, 8, 9, 10, 11, 12, 13, 14, 15, 16, 17, 18, 19, 20, 21, 22, 23, 24, 25, 26, 27, 28, 29, 30, 31, 32, 33, 34, 35, 36, 37, 38, 39, 40, 41, 42, 43, 44, 45, 46, 47, 48, 49, 50, 51, 52, 53, 54, 55, 56, 57, 58, 59, 60, 61] rfl rfl (by decide) (by decide) (va_runS (As := [.int (nI 2)]) (rest := []) ⟨hx, hb, hml, hown, hts⟩ (a_X9_isSheet_138 l dC dI h cs H.size I L A Q G J ) (va_cwS 1 hts gX9_refusal_X9_isSheet rfl rfl rfl (by decide +kernel) ⟨Nat.le_of_ble_eq_true rfl, Nat.le_of_ble_eq_true rfl⟩) (xpS (wc := ([] : va_W)) hP hD hK hN [] rfl (by decide) _) rfl rfl hl.1 rfl (lv_room (Nat.le_of_ble_eq_true rfl)) dX9_refusal_1 ⟨Nat.zero_le _, Nat.zero_le _⟩) (fun r_74 u_73 H locs hw hP hD hS => ?_)
          obtain ⟨hf_75, rfl⟩ := hw
          have hP : va_P (dC, dI) vwCl (wAll h cs fI fL fA fQ fG fJ) H := hP
          have hD : va_D A0 (wAll h cs fI fL fA fQ fG fJ) := hD
          obtain rfl := hf_75
          refine lv_if_eq (tgt := 14) hx hb dX9_refusal_4 (by decide) (fun c9 => False.elim (by revert c9; decide +kernel)) (fun _ => ?_)
          refine lv_iload_n hx hb dX9_refusal_7 rfl (lv_at hl 2 rfl) ?_
          refine xj_i (wc := ([] : va_W)) (wr := (wAll h cs fI fL fA fQ fG fJ)) hP hD hS hA [] [0, 1, 2, 3, 4, 5, 6, 7, 8, 9, 10, 11, 12, 13, 14, 15, 16, 17, 18, 19, 20, 21, 22, 23, 24, 25, 26, 27, 28, 29, 30, 31, 32, 33, 34, 35, 36, 37, 38, 39, 40, 41, 42, 43, 44, 45, 46, 47, 48, 49, 50, 51, 52, 53, 54, 55, 56, 57, 58, 59, 60, 61] rfl rfl (by decide) (by decide) (va_runS (As := [.int (nI 0)]) (rest := []) ⟨hx, hb, hml, hown, hts⟩ (a_X9_isLane_174 l dC dI h cs H.size I L A Q G J ) (va_cwS 1 hts gX9_refusal_X9_isLane rfl rfl rfl (by decide +kernel) ⟨Nat.le_of_ble_eq_true rfl, Nat.le_of_ble_eq_true rfl⟩) (xpS (wc := ([] : va_W)) hP hD hK hN [] rfl (by decide) _) rfl rfl hl.1 rfl (lv_room (Nat.le_of_ble_eq_true rfl)) dX9_refusal_8 ⟨Nat.zero_le _, Nat.zero_le _⟩) (fun r_77 u_76 H locs hw hP hD hS => ?_)
          obtain ⟨hf_78, rfl⟩ := hw
          have hP : va_P (dC, dI) vwCl (wAll h cs fI fL fA fQ fG fJ) H := hP
          have hD : va_D A0 (wAll h cs fI fL fA fQ fG fJ) := hD
          obtain rfl := hf_78
          refine lv_if_ne (tgt := 16) hx hb dX9_refusal_11 (by decide) (fun _ => ?_) (fun c9 => False.elim (by revert c9; decide +kernel))
          refine lv_aload_n hx hb dX9_refusal_16 rfl (lv_at hl 0 rfl) ?_
          refine va_get (D := (dC, dI)) (ci := 9) (v := .ref (h 109)) (C := RX9) (T := TX9) (N := 9) hx hb hts hinX9 hown hK hP 0 rfl rfl 8 (by decide) (hts (.fieldLink RX9 71 "MixedWords" "sheets" "[LMixedWords$Sheet;") (by decide +kernel)) (fun _ h9 => h9) rfl dX9_refusal_17 ?_
          refine lv_iload_n hx hb dX9_refusal_20 rfl (lv_at hl 1 rfl) ?_
          refine xa_aald (b := h 112) hx hb hK hP 53 5 rfl rfl rfl (by omega) (by decide) (if_pos (by omega)) dX9_refusal_21 ?_
          refine xj_i (wc := (wD_139 h cs fI fL fA fQ fG fJ)) (wr := [(h 100, .inr (9, [.ref (h 101), .ref (h 102), .ref (h 103), .ref (h 104), .ref (h 105), .ref (h 106), .ref (h 107), .ref (h 108), .ref (h 109)])), (h 101, .inr (3, [.int (fI 120), .int (fI 121), .int (fI 122), .int (fI 123), .ref (h 130), .ref (h 136)])), (h 130, .inl (cs 3, 5, .inr (.inr (.inr (.inr (fun i => if i < 5 then some (h (i + 131)) else none)))))), (h 131, .inl (cs 0, 4, .inl ((fG 0) 0))), (h 132, .inl (cs 0, 4, .inl ((fG 0) 1))), (h 133, .inl (cs 0, 4, .inl ((fG 0) 2))), (h 134, .inl (cs 0, 4, .inl ((fG 0) 3))), (h 135, .inl (cs 0, 4, .inl ((fG 0) 4))), (h 136, .inl (cs 0, 5, .inl (fA 136))), (h 102, .inr (0, [.ref (h 101), .ref (h 140), .ref (h 141), .ref (h 142), .ref (h 143), .int (fI 144), .int (fI 145), .int (fI 146)])), (h 140, .inl (cs 0, 40, .inl (fA 140))), (h 141, .inl (cs 0, 40, .inl (fA 141))), (h 142, .inl (cs 0, 40, .inl (fA 142))), (h 143, .inl (cs 0, 40, .inl (fA 143))), (h 103, .inr (7, [.ref (h 150), .int (fI 151)])), (h 150, .inl (cs 2, 90, .inl (fA 150))), (h 104, .inr (4, [.ref (h 103), .ref (h 160), .int (fI 166), .int (fI 167), .int (fI 168), .int (fI 169)])), (h 160, .inl (cs 3, 5, .inr (.inr (.inr (.inr (fun i => if i < 5 then some (h (i + 161)) else none)))))), (h 161, .inl (cs 0, 4, .inl ((fG 1) 0))), (h 162, .inl (cs 0, 4, .inl ((fG 1) 1))), (h 163, .inl (cs 0, 4, .inl ((fG 1) 2))), (h 164, .inl (cs 0, 4, .inl ((fG 1) 3))), (h 165, .inl (cs 0, 4, .inl ((fG 1) 4))), (h 105, .inr (8, [.ref (h 101), .ref (h 170), .ref (h 171), .ref (h 172), .int (fI 173), .int (fI 174)])), (h 170, .inl (cs 0, 256, .inl (fA 170))), (h 171, .inl (cs 0, 256, .inl (fA 171))), (h 172, .inl (cs 0, 256, .inl (fA 172))), (h 106, .inr (2, [.ref (h 180), .ref (h 185), .ref (h 186), .ref (h 187), .long (fL 188)])), (h 180, .inl (cs 4, 4, .inr (.inr (.inr (.inr (fun i => if i < 4 then some (h (i + 181)) else none)))))), (h 181, .inl (cs 1, 4, .inr (.inl ((fJ 0) 0)))), (h 182, .inl (cs 1, 4, .inr (.inl ((fJ 0) 1)))), (h 183, .inl (cs 1, 4, .inr (.inl ((fJ 0) 2)))), (h 184, .inl (cs 1, 4, .inr (.inl ((fJ 0) 3)))), (h 185, .inl (cs 1, 4, .inr (.inl (fQ 185)))), (h 186, .inl (cs 0, 4, .inl (fA 186))), (h 187, .inl (cs 1, 4, .inr (.inl (fQ 187)))), (h 107, .inr (6, [.ref (h 101), .ref (h 190), .ref (h 191), .ref (h 192)])), (h 190, .inl (cs 0, 5, .inl (fA 190))), (h 191, .inl (cs 0, 4, .inl (fA 191))), (h 192, .inl (cs 0, 4, .inl (fA 192))), (h 108, .inr (1, [.ref (h 101), .ref (h 200), .ref (h 206), .ref (h 211), .int (fI 212), .int (fI 213)])), (h 200, .inl (cs 3, 5, .inr (.inr (.inr (.inr (fun i => if i < 5 then some (h (i + 201)) else none)))))), (h 201, .inl (cs 0, 4, .inl ((fG 2) 0))), (h 202, .inl (cs 0, 4, .inl ((fG 2) 1))), (h 203, .inl (cs 0, 4, .inl ((fG 2) 2))), (h 204, .inl (cs 0, 4, .inl ((fG 2) 3))), (h 205, .inl (cs 0, 4, .inl ((fG 2) 4))), (h 206, .inl (cs 3, 4, .inr (.inr (.inr (.inr (fun i => if i < 4 then some (h (i + 207)) else none)))))), (h 207, .inl (cs 0, 4, .inl ((fG 3) 0))), (h 208, .inl (cs 0, 4, .inl ((fG 3) 1))), (h 209, .inl (cs 0, 4, .inl ((fG 3) 2))), (h 210, .inl (cs 0, 4, .inl ((fG 3) 3))), (h 211, .inl (cs 0, 5, .inl (fA 211))), (h 109, .inl (cs 5, 4, .inr (.inr (.inr (.inr (fun i => if i < 4 then some (h (i + 110)) else none)))))), (h 110, .inr (5, [.int (fI 220), .int (fI 224), .ref (h 228)])), (h 228, .inl (cs 1, 25, .inr (.inl (fQ 228)))), (h 111, .inr (5, [.int (fI 221), .int (fI 225), .ref (h 229)])), (h 229, .inl (cs 1, 25, .inr (.inl (fQ 229)))), (h 113, .inr (5, [.int (fI 223), .int (fI 227), .ref (h 231)])), (h 231, .inl (cs 1, 25, .inr (.inl (fQ 231))))]) hP hD hS hA [58, 59] [0, 1, 2, 3, 4, 5, 6, 7, 8, 9, 10, 11, 12, 13, 14, 15, 16, 17, 18, 19, 20, 21, 22, 23, 24, 25, 26, 27, 28, 29, 30, 31, 32, 33, 34, 35, 36, 37, 38, 39, 40, 41, 42, 43, 44, 45, 46, 47, 48, 49, 50, 51, 52, 53, 54, 55, 56, 57, 60, 61] rfl rfl (by decide) (by decide) (va_runV (As := []) (rest := []) ⟨hx, hb, hml, hown, hts⟩ (a_X5_holds_140 l dC dI h cs H.size fI fL fA fQ fG fJ ) (cwV 0 hts gX9_refusal_X5_holds rfl rfl rfl (by decide +kernel) ⟨Nat.le_of_ble_eq_true rfl, Nat.le_of_ble_eq_true rfl⟩) (xpV (wc := (wD_139 h cs fI fL fA fQ fG fJ)) hP hD hK hN [58, 59] rfl (by decide) 58 (ci := 5) rfl rfl _) rfl rfl hl.1 rfl (lv_room (Nat.le_of_ble_eq_true rfl)) dX9_refusal_22 ⟨Nat.zero_le _, Nat.zero_le _⟩) (fun r_80 u_79 H locs hw hP hD hS => ?_)
          obtain ⟨hf_81, rfl⟩ := hw
          have hP : va_P (dC, dI) vwCl (wAll h cs fI fL fA fQ fG fJ) H := xP_sub hP [0, 1, 2, 3, 4, 5, 6, 7, 8, 9, 10, 11, 12, 13, 14, 15, 16, 17, 18, 19, 20, 21, 22, 23, 24, 25, 26, 27, 28, 29, 30, 31, 32, 33, 34, 35, 36, 37, 38, 39, 40, 41, 42, 43, 44, 45, 46, 47, 48, 49, 50, 51, 52, 53, 54, 55, 56, 57, 60, 61, 58, 59] rfl
          have hD : va_D A0 (wAll h cs fI fL fA fQ fG fJ) := hD.sub [0, 1, 2, 3, 4, 5, 6, 7, 8, 9, 10, 11, 12, 13, 14, 15, 16, 17, 18, 19, 20, 21, 22, 23, 24, 25, 26, 27, 28, 29, 30, 31, 32, 33, 34, 35, 36, 37, 38, 39, 40, 41, 42, 43, 44, 45, 46, 47, 48, 49, 50, 51, 52, 53, 54, 55, 56, 57, 60, 61, 58, 59] (by decide) rfl
          obtain rfl := hf_81
          refine lv_if_ne (tgt := 31) hx hb dX9_refusal_25 (by decide) (fun c9 => False.elim (by revert c9; decide +kernel)) (fun _ => ?_)
          refine lv_bipush (v := (-11)) hx hb dX9_refusal_28 (by decide) ?_
          exact xr_i (v := (-11)) hx hb hr hlocks hK hS dX9_refusal_30 (fI, fL, fA, fQ, fG, fJ) ⟨(by decide +kernel), rfl⟩ hP hD
        · skip
          refine lv_iload_n hx hb dX9_refusal_0 rfl (lv_at hl 1 rfl) ?_
          refine xj_i (wc := ([] : va_W)) (wr := (wAll h cs fI fL fA fQ fG fJ)) hP hD hS hA [] [0, 1, 2, 3, 4, 5, 6, 7, 8, 9, 10, 11, 12, 13, 14, 15, 16, 17, 18, 19, 20, 21, 22, 23, 24, 25, 26, 27, 28, 29, 30, 31, 32, 33, 34, 35, 36, 37, 38, 39, 40, 41, 42, 43, 44, 45, 46, 47, 48, 49, 50, 51, 52, 53, 54, 55, 56, 57, 58, 59, 60, 61] rfl rfl (by decide) (by decide) (va_runS (As := [.int (nI 2)]) (rest := []) ⟨hx, hb, hml, hown, hts⟩ (a_X9_isSheet_138 l dC dI h cs H.size I L A Q G J ) (va_cwS 1 hts gX9_refusal_X9_isSheet rfl rfl rfl (by decide +kernel) ⟨Nat.le_of_ble_eq_true rfl, Nat.le_of_ble_eq_true rfl⟩) (xpS (wc := ([] : va_W)) hP hD hK hN [] rfl (by decide) _) rfl rfl hl.1 rfl (lv_room (Nat.le_of_ble_eq_true rfl)) dX9_refusal_1 ⟨Nat.zero_le _, Nat.zero_le _⟩) (fun r_83 u_82 H locs hw hP hD hS => ?_)
          obtain ⟨hf_84, rfl⟩ := hw
          have hP : va_P (dC, dI) vwCl (wAll h cs fI fL fA fQ fG fJ) H := hP
          have hD : va_D A0 (wAll h cs fI fL fA fQ fG fJ) := hD
          obtain rfl := hf_84
          refine lv_if_eq (tgt := 14) hx hb dX9_refusal_4 (by decide) (fun c9 => False.elim (by revert c9; decide +kernel)) (fun _ => ?_)
          refine lv_iload_n hx hb dX9_refusal_7 rfl (lv_at hl 2 rfl) ?_
          refine xj_i (wc := ([] : va_W)) (wr := (wAll h cs fI fL fA fQ fG fJ)) hP hD hS hA [] [0, 1, 2, 3, 4, 5, 6, 7, 8, 9, 10, 11, 12, 13, 14, 15, 16, 17, 18, 19, 20, 21, 22, 23, 24, 25, 26, 27, 28, 29, 30, 31, 32, 33, 34, 35, 36, 37, 38, 39, 40, 41, 42, 43, 44, 45, 46, 47, 48, 49, 50, 51, 52, 53, 54, 55, 56, 57, 58, 59, 60, 61] rfl rfl (by decide) (by decide) (va_runS (As := [.int (nI 1)]) (rest := []) ⟨hx, hb, hml, hown, hts⟩ (a_X9_isLane_175 l dC dI h cs H.size I L A Q G J ) (va_cwS 1 hts gX9_refusal_X9_isLane rfl rfl rfl (by decide +kernel) ⟨Nat.le_of_ble_eq_true rfl, Nat.le_of_ble_eq_true rfl⟩) (xpS (wc := ([] : va_W)) hP hD hK hN [] rfl (by decide) _) rfl rfl hl.1 rfl (lv_room (Nat.le_of_ble_eq_true rfl)) dX9_refusal_8 ⟨Nat.zero_le _, Nat.zero_le _⟩) (fun r_86 u_85 H locs hw hP hD hS => ?_)
          obtain ⟨hf_87, rfl⟩ := hw
          have hP : va_P (dC, dI) vwCl (wAll h cs fI fL fA fQ fG fJ) H := hP
          have hD : va_D A0 (wAll h cs fI fL fA fQ fG fJ) := hD
          obtain rfl := hf_87
          refine lv_if_ne (tgt := 16) hx hb dX9_refusal_11 (by decide) (fun _ => ?_) (fun c9 => False.elim (by revert c9; decide +kernel))
          refine lv_aload_n hx hb dX9_refusal_16 rfl (lv_at hl 0 rfl) ?_
          refine va_get (D := (dC, dI)) (ci := 9) (v := .ref (h 109)) (C := RX9) (T := TX9) (N := 9) hx hb hts hinX9 hown hK hP 0 rfl rfl 8 (by decide) (hts (.fieldLink RX9 71 "MixedWords" "sheets" "[LMixedWords$Sheet;") (by decide +kernel)) (fun _ h9 => h9) rfl dX9_refusal_17 ?_
          refine lv_iload_n hx hb dX9_refusal_20 rfl (lv_at hl 1 rfl) ?_
          refine xa_aald (b := h 112) hx hb hK hP 53 5 rfl rfl rfl (by omega) (by decide) (if_pos (by omega)) dX9_refusal_21 ?_
          refine xj_i (wc := (wD_139 h cs fI fL fA fQ fG fJ)) (wr := [(h 100, .inr (9, [.ref (h 101), .ref (h 102), .ref (h 103), .ref (h 104), .ref (h 105), .ref (h 106), .ref (h 107), .ref (h 108), .ref (h 109)])), (h 101, .inr (3, [.int (fI 120), .int (fI 121), .int (fI 122), .int (fI 123), .ref (h 130), .ref (h 136)])), (h 130, .inl (cs 3, 5, .inr (.inr (.inr (.inr (fun i => if i < 5 then some (h (i + 131)) else none)))))), (h 131, .inl (cs 0, 4, .inl ((fG 0) 0))), (h 132, .inl (cs 0, 4, .inl ((fG 0) 1))), (h 133, .inl (cs 0, 4, .inl ((fG 0) 2))), (h 134, .inl (cs 0, 4, .inl ((fG 0) 3))), (h 135, .inl (cs 0, 4, .inl ((fG 0) 4))), (h 136, .inl (cs 0, 5, .inl (fA 136))), (h 102, .inr (0, [.ref (h 101), .ref (h 140), .ref (h 141), .ref (h 142), .ref (h 143), .int (fI 144), .int (fI 145), .int (fI 146)])), (h 140, .inl (cs 0, 40, .inl (fA 140))), (h 141, .inl (cs 0, 40, .inl (fA 141))), (h 142, .inl (cs 0, 40, .inl (fA 142))), (h 143, .inl (cs 0, 40, .inl (fA 143))), (h 103, .inr (7, [.ref (h 150), .int (fI 151)])), (h 150, .inl (cs 2, 90, .inl (fA 150))), (h 104, .inr (4, [.ref (h 103), .ref (h 160), .int (fI 166), .int (fI 167), .int (fI 168), .int (fI 169)])), (h 160, .inl (cs 3, 5, .inr (.inr (.inr (.inr (fun i => if i < 5 then some (h (i + 161)) else none)))))), (h 161, .inl (cs 0, 4, .inl ((fG 1) 0))), (h 162, .inl (cs 0, 4, .inl ((fG 1) 1))), (h 163, .inl (cs 0, 4, .inl ((fG 1) 2))), (h 164, .inl (cs 0, 4, .inl ((fG 1) 3))), (h 165, .inl (cs 0, 4, .inl ((fG 1) 4))), (h 105, .inr (8, [.ref (h 101), .ref (h 170), .ref (h 171), .ref (h 172), .int (fI 173), .int (fI 174)])), (h 170, .inl (cs 0, 256, .inl (fA 170))), (h 171, .inl (cs 0, 256, .inl (fA 171))), (h 172, .inl (cs 0, 256, .inl (fA 172))), (h 106, .inr (2, [.ref (h 180), .ref (h 185), .ref (h 186), .ref (h 187), .long (fL 188)])), (h 180, .inl (cs 4, 4, .inr (.inr (.inr (.inr (fun i => if i < 4 then some (h (i + 181)) else none)))))), (h 181, .inl (cs 1, 4, .inr (.inl ((fJ 0) 0)))), (h 182, .inl (cs 1, 4, .inr (.inl ((fJ 0) 1)))), (h 183, .inl (cs 1, 4, .inr (.inl ((fJ 0) 2)))), (h 184, .inl (cs 1, 4, .inr (.inl ((fJ 0) 3)))), (h 185, .inl (cs 1, 4, .inr (.inl (fQ 185)))), (h 186, .inl (cs 0, 4, .inl (fA 186))), (h 187, .inl (cs 1, 4, .inr (.inl (fQ 187)))), (h 107, .inr (6, [.ref (h 101), .ref (h 190), .ref (h 191), .ref (h 192)])), (h 190, .inl (cs 0, 5, .inl (fA 190))), (h 191, .inl (cs 0, 4, .inl (fA 191))), (h 192, .inl (cs 0, 4, .inl (fA 192))), (h 108, .inr (1, [.ref (h 101), .ref (h 200), .ref (h 206), .ref (h 211), .int (fI 212), .int (fI 213)])), (h 200, .inl (cs 3, 5, .inr (.inr (.inr (.inr (fun i => if i < 5 then some (h (i + 201)) else none)))))), (h 201, .inl (cs 0, 4, .inl ((fG 2) 0))), (h 202, .inl (cs 0, 4, .inl ((fG 2) 1))), (h 203, .inl (cs 0, 4, .inl ((fG 2) 2))), (h 204, .inl (cs 0, 4, .inl ((fG 2) 3))), (h 205, .inl (cs 0, 4, .inl ((fG 2) 4))), (h 206, .inl (cs 3, 4, .inr (.inr (.inr (.inr (fun i => if i < 4 then some (h (i + 207)) else none)))))), (h 207, .inl (cs 0, 4, .inl ((fG 3) 0))), (h 208, .inl (cs 0, 4, .inl ((fG 3) 1))), (h 209, .inl (cs 0, 4, .inl ((fG 3) 2))), (h 210, .inl (cs 0, 4, .inl ((fG 3) 3))), (h 211, .inl (cs 0, 5, .inl (fA 211))), (h 109, .inl (cs 5, 4, .inr (.inr (.inr (.inr (fun i => if i < 4 then some (h (i + 110)) else none)))))), (h 110, .inr (5, [.int (fI 220), .int (fI 224), .ref (h 228)])), (h 228, .inl (cs 1, 25, .inr (.inl (fQ 228)))), (h 111, .inr (5, [.int (fI 221), .int (fI 225), .ref (h 229)])), (h 229, .inl (cs 1, 25, .inr (.inl (fQ 229)))), (h 113, .inr (5, [.int (fI 223), .int (fI 227), .ref (h 231)])), (h 231, .inl (cs 1, 25, .inr (.inl (fQ 231))))]) hP hD hS hA [58, 59] [0, 1, 2, 3, 4, 5, 6, 7, 8, 9, 10, 11, 12, 13, 14, 15, 16, 17, 18, 19, 20, 21, 22, 23, 24, 25, 26, 27, 28, 29, 30, 31, 32, 33, 34, 35, 36, 37, 38, 39, 40, 41, 42, 43, 44, 45, 46, 47, 48, 49, 50, 51, 52, 53, 54, 55, 56, 57, 60, 61] rfl rfl (by decide) (by decide) (va_runV (As := []) (rest := []) ⟨hx, hb, hml, hown, hts⟩ (a_X5_holds_140 l dC dI h cs H.size fI fL fA fQ fG fJ ) (cwV 0 hts gX9_refusal_X5_holds rfl rfl rfl (by decide +kernel) ⟨Nat.le_of_ble_eq_true rfl, Nat.le_of_ble_eq_true rfl⟩) (xpV (wc := (wD_139 h cs fI fL fA fQ fG fJ)) hP hD hK hN [58, 59] rfl (by decide) 58 (ci := 5) rfl rfl _) rfl rfl hl.1 rfl (lv_room (Nat.le_of_ble_eq_true rfl)) dX9_refusal_22 ⟨Nat.zero_le _, Nat.zero_le _⟩) (fun r_89 u_88 H locs hw hP hD hS => ?_)
          obtain ⟨hf_90, rfl⟩ := hw
          have hP : va_P (dC, dI) vwCl (wAll h cs fI fL fA fQ fG fJ) H := xP_sub hP [0, 1, 2, 3, 4, 5, 6, 7, 8, 9, 10, 11, 12, 13, 14, 15, 16, 17, 18, 19, 20, 21, 22, 23, 24, 25, 26, 27, 28, 29, 30, 31, 32, 33, 34, 35, 36, 37, 38, 39, 40, 41, 42, 43, 44, 45, 46, 47, 48, 49, 50, 51, 52, 53, 54, 55, 56, 57, 60, 61, 58, 59] rfl
          have hD : va_D A0 (wAll h cs fI fL fA fQ fG fJ) := hD.sub [0, 1, 2, 3, 4, 5, 6, 7, 8, 9, 10, 11, 12, 13, 14, 15, 16, 17, 18, 19, 20, 21, 22, 23, 24, 25, 26, 27, 28, 29, 30, 31, 32, 33, 34, 35, 36, 37, 38, 39, 40, 41, 42, 43, 44, 45, 46, 47, 48, 49, 50, 51, 52, 53, 54, 55, 56, 57, 60, 61, 58, 59] (by decide) rfl
          obtain rfl := hf_90
          refine lv_if_ne (tgt := 31) hx hb dX9_refusal_25 (by decide) (fun c9 => False.elim (by revert c9; decide +kernel)) (fun _ => ?_)
          refine lv_bipush (v := (-11)) hx hb dX9_refusal_28 (by decide) ?_
          exact xr_i (v := (-11)) hx hb hr hlocks hK hS dX9_refusal_30 (fI, fL, fA, fQ, fG, fJ) ⟨(by decide +kernel), rfl⟩ hP hD
        · skip
          refine lv_iload_n hx hb dX9_refusal_0 rfl (lv_at hl 1 rfl) ?_
          refine xj_i (wc := ([] : va_W)) (wr := (wAll h cs fI fL fA fQ fG fJ)) hP hD hS hA [] [0, 1, 2, 3, 4, 5, 6, 7, 8, 9, 10, 11, 12, 13, 14, 15, 16, 17, 18, 19, 20, 21, 22, 23, 24, 25, 26, 27, 28, 29, 30, 31, 32, 33, 34, 35, 36, 37, 38, 39, 40, 41, 42, 43, 44, 45, 46, 47, 48, 49, 50, 51, 52, 53, 54, 55, 56, 57, 58, 59, 60, 61] rfl rfl (by decide) (by decide) (va_runS (As := [.int (nI 2)]) (rest := []) ⟨hx, hb, hml, hown, hts⟩ (a_X9_isSheet_138 l dC dI h cs H.size I L A Q G J ) (va_cwS 1 hts gX9_refusal_X9_isSheet rfl rfl rfl (by decide +kernel) ⟨Nat.le_of_ble_eq_true rfl, Nat.le_of_ble_eq_true rfl⟩) (xpS (wc := ([] : va_W)) hP hD hK hN [] rfl (by decide) _) rfl rfl hl.1 rfl (lv_room (Nat.le_of_ble_eq_true rfl)) dX9_refusal_1 ⟨Nat.zero_le _, Nat.zero_le _⟩) (fun r_92 u_91 H locs hw hP hD hS => ?_)
          obtain ⟨hf_93, rfl⟩ := hw
          have hP : va_P (dC, dI) vwCl (wAll h cs fI fL fA fQ fG fJ) H := hP
          have hD : va_D A0 (wAll h cs fI fL fA fQ fG fJ) := hD
          obtain rfl := hf_93
          refine lv_if_eq (tgt := 14) hx hb dX9_refusal_4 (by decide) (fun c9 => False.elim (by revert c9; decide +kernel)) (fun _ => ?_)
          refine lv_iload_n hx hb dX9_refusal_7 rfl (lv_at hl 2 rfl) ?_
          refine xj_i (wc := ([] : va_W)) (wr := (wAll h cs fI fL fA fQ fG fJ)) hP hD hS hA [] [0, 1, 2, 3, 4, 5, 6, 7, 8, 9, 10, 11, 12, 13, 14, 15, 16, 17, 18, 19, 20, 21, 22, 23, 24, 25, 26, 27, 28, 29, 30, 31, 32, 33, 34, 35, 36, 37, 38, 39, 40, 41, 42, 43, 44, 45, 46, 47, 48, 49, 50, 51, 52, 53, 54, 55, 56, 57, 58, 59, 60, 61] rfl rfl (by decide) (by decide) (va_runS (As := [.int (nI 2)]) (rest := []) ⟨hx, hb, hml, hown, hts⟩ (a_X9_isLane_176 l dC dI h cs H.size I L A Q G J ) (va_cwS 1 hts gX9_refusal_X9_isLane rfl rfl rfl (by decide +kernel) ⟨Nat.le_of_ble_eq_true rfl, Nat.le_of_ble_eq_true rfl⟩) (xpS (wc := ([] : va_W)) hP hD hK hN [] rfl (by decide) _) rfl rfl hl.1 rfl (lv_room (Nat.le_of_ble_eq_true rfl)) dX9_refusal_8 ⟨Nat.zero_le _, Nat.zero_le _⟩) (fun r_95 u_94 H locs hw hP hD hS => ?_)
          obtain ⟨hf_96, rfl⟩ := hw
          have hP : va_P (dC, dI) vwCl (wAll h cs fI fL fA fQ fG fJ) H := hP
          have hD : va_D A0 (wAll h cs fI fL fA fQ fG fJ) := hD
          obtain rfl := hf_96
          refine lv_if_ne (tgt := 16) hx hb dX9_refusal_11 (by decide) (fun _ => ?_) (fun c9 => False.elim (by revert c9; decide +kernel))
          refine lv_aload_n hx hb dX9_refusal_16 rfl (lv_at hl 0 rfl) ?_
          refine va_get (D := (dC, dI)) (ci := 9) (v := .ref (h 109)) (C := RX9) (T := TX9) (N := 9) hx hb hts hinX9 hown hK hP 0 rfl rfl 8 (by decide) (hts (.fieldLink RX9 71 "MixedWords" "sheets" "[LMixedWords$Sheet;") (by decide +kernel)) (fun _ h9 => h9) rfl dX9_refusal_17 ?_
          refine lv_iload_n hx hb dX9_refusal_20 rfl (lv_at hl 1 rfl) ?_
          refine xa_aald (b := h 112) hx hb hK hP 53 5 rfl rfl rfl (by omega) (by decide) (if_pos (by omega)) dX9_refusal_21 ?_
          refine xj_i (wc := (wD_139 h cs fI fL fA fQ fG fJ)) (wr := [(h 100, .inr (9, [.ref (h 101), .ref (h 102), .ref (h 103), .ref (h 104), .ref (h 105), .ref (h 106), .ref (h 107), .ref (h 108), .ref (h 109)])), (h 101, .inr (3, [.int (fI 120), .int (fI 121), .int (fI 122), .int (fI 123), .ref (h 130), .ref (h 136)])), (h 130, .inl (cs 3, 5, .inr (.inr (.inr (.inr (fun i => if i < 5 then some (h (i + 131)) else none)))))), (h 131, .inl (cs 0, 4, .inl ((fG 0) 0))), (h 132, .inl (cs 0, 4, .inl ((fG 0) 1))), (h 133, .inl (cs 0, 4, .inl ((fG 0) 2))), (h 134, .inl (cs 0, 4, .inl ((fG 0) 3))), (h 135, .inl (cs 0, 4, .inl ((fG 0) 4))), (h 136, .inl (cs 0, 5, .inl (fA 136))), (h 102, .inr (0, [.ref (h 101), .ref (h 140), .ref (h 141), .ref (h 142), .ref (h 143), .int (fI 144), .int (fI 145), .int (fI 146)])), (h 140, .inl (cs 0, 40, .inl (fA 140))), (h 141, .inl (cs 0, 40, .inl (fA 141))), (h 142, .inl (cs 0, 40, .inl (fA 142))), (h 143, .inl (cs 0, 40, .inl (fA 143))), (h 103, .inr (7, [.ref (h 150), .int (fI 151)])), (h 150, .inl (cs 2, 90, .inl (fA 150))), (h 104, .inr (4, [.ref (h 103), .ref (h 160), .int (fI 166), .int (fI 167), .int (fI 168), .int (fI 169)])), (h 160, .inl (cs 3, 5, .inr (.inr (.inr (.inr (fun i => if i < 5 then some (h (i + 161)) else none)))))), (h 161, .inl (cs 0, 4, .inl ((fG 1) 0))), (h 162, .inl (cs 0, 4, .inl ((fG 1) 1))), (h 163, .inl (cs 0, 4, .inl ((fG 1) 2))), (h 164, .inl (cs 0, 4, .inl ((fG 1) 3))), (h 165, .inl (cs 0, 4, .inl ((fG 1) 4))), (h 105, .inr (8, [.ref (h 101), .ref (h 170), .ref (h 171), .ref (h 172), .int (fI 173), .int (fI 174)])), (h 170, .inl (cs 0, 256, .inl (fA 170))), (h 171, .inl (cs 0, 256, .inl (fA 171))), (h 172, .inl (cs 0, 256, .inl (fA 172))), (h 106, .inr (2, [.ref (h 180), .ref (h 185), .ref (h 186), .ref (h 187), .long (fL 188)])), (h 180, .inl (cs 4, 4, .inr (.inr (.inr (.inr (fun i => if i < 4 then some (h (i + 181)) else none)))))), (h 181, .inl (cs 1, 4, .inr (.inl ((fJ 0) 0)))), (h 182, .inl (cs 1, 4, .inr (.inl ((fJ 0) 1)))), (h 183, .inl (cs 1, 4, .inr (.inl ((fJ 0) 2)))), (h 184, .inl (cs 1, 4, .inr (.inl ((fJ 0) 3)))), (h 185, .inl (cs 1, 4, .inr (.inl (fQ 185)))), (h 186, .inl (cs 0, 4, .inl (fA 186))), (h 187, .inl (cs 1, 4, .inr (.inl (fQ 187)))), (h 107, .inr (6, [.ref (h 101), .ref (h 190), .ref (h 191), .ref (h 192)])), (h 190, .inl (cs 0, 5, .inl (fA 190))), (h 191, .inl (cs 0, 4, .inl (fA 191))), (h 192, .inl (cs 0, 4, .inl (fA 192))), (h 108, .inr (1, [.ref (h 101), .ref (h 200), .ref (h 206), .ref (h 211), .int (fI 212), .int (fI 213)])), (h 200, .inl (cs 3, 5, .inr (.inr (.inr (.inr (fun i => if i < 5 then some (h (i + 201)) else none)))))), (h 201, .inl (cs 0, 4, .inl ((fG 2) 0))), (h 202, .inl (cs 0, 4, .inl ((fG 2) 1))), (h 203, .inl (cs 0, 4, .inl ((fG 2) 2))), (h 204, .inl (cs 0, 4, .inl ((fG 2) 3))), (h 205, .inl (cs 0, 4, .inl ((fG 2) 4))), (h 206, .inl (cs 3, 4, .inr (.inr (.inr (.inr (fun i => if i < 4 then some (h (i + 207)) else none)))))), (h 207, .inl (cs 0, 4, .inl ((fG 3) 0))), (h 208, .inl (cs 0, 4, .inl ((fG 3) 1))), (h 209, .inl (cs 0, 4, .inl ((fG 3) 2))), (h 210, .inl (cs 0, 4, .inl ((fG 3) 3))), (h 211, .inl (cs 0, 5, .inl (fA 211))), (h 109, .inl (cs 5, 4, .inr (.inr (.inr (.inr (fun i => if i < 4 then some (h (i + 110)) else none)))))), (h 110, .inr (5, [.int (fI 220), .int (fI 224), .ref (h 228)])), (h 228, .inl (cs 1, 25, .inr (.inl (fQ 228)))), (h 111, .inr (5, [.int (fI 221), .int (fI 225), .ref (h 229)])), (h 229, .inl (cs 1, 25, .inr (.inl (fQ 229)))), (h 113, .inr (5, [.int (fI 223), .int (fI 227), .ref (h 231)])), (h 231, .inl (cs 1, 25, .inr (.inl (fQ 231))))]) hP hD hS hA [58, 59] [0, 1, 2, 3, 4, 5, 6, 7, 8, 9, 10, 11, 12, 13, 14, 15, 16, 17, 18, 19, 20, 21, 22, 23, 24, 25, 26, 27, 28, 29, 30, 31, 32, 33, 34, 35, 36, 37, 38, 39, 40, 41, 42, 43, 44, 45, 46, 47, 48, 49, 50, 51, 52, 53, 54, 55, 56, 57, 60, 61] rfl rfl (by decide) (by decide) (va_runV (As := []) (rest := []) ⟨hx, hb, hml, hown, hts⟩ (a_X5_holds_140 l dC dI h cs H.size fI fL fA fQ fG fJ ) (cwV 0 hts gX9_refusal_X5_holds rfl rfl rfl (by decide +kernel) ⟨Nat.le_of_ble_eq_true rfl, Nat.le_of_ble_eq_true rfl⟩) (xpV (wc := (wD_139 h cs fI fL fA fQ fG fJ)) hP hD hK hN [58, 59] rfl (by decide) 58 (ci := 5) rfl rfl _) rfl rfl hl.1 rfl (lv_room (Nat.le_of_ble_eq_true rfl)) dX9_refusal_22 ⟨Nat.zero_le _, Nat.zero_le _⟩) (fun r_98 u_97 H locs hw hP hD hS => ?_)
          obtain ⟨hf_99, rfl⟩ := hw
          have hP : va_P (dC, dI) vwCl (wAll h cs fI fL fA fQ fG fJ) H := xP_sub hP [0, 1, 2, 3, 4, 5, 6, 7, 8, 9, 10, 11, 12, 13, 14, 15, 16, 17, 18, 19, 20, 21, 22, 23, 24, 25, 26, 27, 28, 29, 30, 31, 32, 33, 34, 35, 36, 37, 38, 39, 40, 41, 42, 43, 44, 45, 46, 47, 48, 49, 50, 51, 52, 53, 54, 55, 56, 57, 60, 61, 58, 59] rfl
          have hD : va_D A0 (wAll h cs fI fL fA fQ fG fJ) := hD.sub [0, 1, 2, 3, 4, 5, 6, 7, 8, 9, 10, 11, 12, 13, 14, 15, 16, 17, 18, 19, 20, 21, 22, 23, 24, 25, 26, 27, 28, 29, 30, 31, 32, 33, 34, 35, 36, 37, 38, 39, 40, 41, 42, 43, 44, 45, 46, 47, 48, 49, 50, 51, 52, 53, 54, 55, 56, 57, 60, 61, 58, 59] (by decide) rfl
          obtain rfl := hf_99
          refine lv_if_ne (tgt := 31) hx hb dX9_refusal_25 (by decide) (fun c9 => False.elim (by revert c9; decide +kernel)) (fun _ => ?_)
          refine lv_bipush (v := (-11)) hx hb dX9_refusal_28 (by decide) ?_
          exact xr_i (v := (-11)) hx hb hr hlocks hK hS dX9_refusal_30 (fI, fL, fA, fQ, fG, fJ) ⟨(by decide +kernel), rfl⟩ hP hD
      · skip
        refine lv_iload_n hx hb dX9_refusal_0 rfl (lv_at hl 1 rfl) ?_
        refine xj_i (wc := ([] : va_W)) (wr := (wAll h cs fI fL fA fQ fG fJ)) hP hD hS hA [] [0, 1, 2, 3, 4, 5, 6, 7, 8, 9, 10, 11, 12, 13, 14, 15, 16, 17, 18, 19, 20, 21, 22, 23, 24, 25, 26, 27, 28, 29, 30, 31, 32, 33, 34, 35, 36, 37, 38, 39, 40, 41, 42, 43, 44, 45, 46, 47, 48, 49, 50, 51, 52, 53, 54, 55, 56, 57, 58, 59, 60, 61] rfl rfl (by decide) (by decide) (va_runS (As := [.int (nI 2)]) (rest := []) ⟨hx, hb, hml, hown, hts⟩ (a_X9_isSheet_138 l dC dI h cs H.size I L A Q G J ) (va_cwS 1 hts gX9_refusal_X9_isSheet rfl rfl rfl (by decide +kernel) ⟨Nat.le_of_ble_eq_true rfl, Nat.le_of_ble_eq_true rfl⟩) (xpS (wc := ([] : va_W)) hP hD hK hN [] rfl (by decide) _) rfl rfl hl.1 rfl (lv_room (Nat.le_of_ble_eq_true rfl)) dX9_refusal_1 ⟨Nat.zero_le _, Nat.zero_le _⟩) (fun r_101 u_100 H locs hw hP hD hS => ?_)
        obtain ⟨hf_102, rfl⟩ := hw
        have hP : va_P (dC, dI) vwCl (wAll h cs fI fL fA fQ fG fJ) H := hP
        have hD : va_D A0 (wAll h cs fI fL fA fQ fG fJ) := hD
        obtain rfl := hf_102
        refine lv_if_eq (tgt := 14) hx hb dX9_refusal_4 (by decide) (fun c9 => False.elim (by revert c9; decide +kernel)) (fun _ => ?_)
        refine lv_iload_n hx hb dX9_refusal_7 rfl (lv_at hl 2 rfl) ?_
        refine xj_i (wc := ([] : va_W)) (wr := (wAll h cs fI fL fA fQ fG fJ)) hP hD hS hA [] [0, 1, 2, 3, 4, 5, 6, 7, 8, 9, 10, 11, 12, 13, 14, 15, 16, 17, 18, 19, 20, 21, 22, 23, 24, 25, 26, 27, 28, 29, 30, 31, 32, 33, 34, 35, 36, 37, 38, 39, 40, 41, 42, 43, 44, 45, 46, 47, 48, 49, 50, 51, 52, 53, 54, 55, 56, 57, 58, 59, 60, 61] rfl rfl (by decide) (by decide) (va_runS (As := [.int y]) (rest := []) ⟨hx, hb, hml, hown, hts⟩ (k_X9_isLane l dC dI h cs H.size I L A Q G J y) (va_cwS 1 hts gX9_refusal_X9_isLane rfl rfl rfl (by decide +kernel) ⟨Nat.le_of_ble_eq_true rfl, Nat.le_of_ble_eq_true rfl⟩) (xpS (wc := ([] : va_W)) hP hD hK hN [] rfl (by decide) _) rfl rfl hl.1 rfl (lv_room (Nat.le_of_ble_eq_true rfl)) dX9_refusal_8 ⟨Nat.zero_le _, Nat.zero_le _⟩) (fun r_104 u_103 H locs hw hP hD hS => ?_)
        obtain ⟨hf_105, rfl⟩ := hw
        have hP : va_P (dC, dI) vwCl (wAll h cs fI fL fA fQ fG fJ) H := hP
        have hD : va_D A0 (wAll h cs fI fL fA fQ fG fJ) := hD
        rcases hf_105 with ⟨rfl, i_106, hh_107, ee_108⟩ | ⟨rfl, -⟩
        · skip
          exact absurd (by rw [ee_108, nI_toInt (by omega)]; omega) hz_y
        · skip
          refine lv_if_ne (tgt := 16) hx hb dX9_refusal_11 (by decide) (fun c9 => False.elim (by revert c9; decide +kernel)) (fun _ => ?_)
          refine lv_iconst (v := (-1)) hx hb dX9_refusal_14 (by decide) ?_
          exact xr_i (v := (-1)) hx hb hr hlocks hK hS dX9_refusal_15 (fI, fL, fA, fQ, fG, fJ) ⟨(by unfold an_item; rw [if_neg (by omega)]), rfl⟩ hP hD
    · skip
      rcases splR y 0 2 (by decide) with ⟨i_y, h_y, g_y, rfl⟩ | hz_y
      · skip
        rcases (show i_y = 0 ∨ i_y = 1 ∨ i_y = 2 by omega) with rfl | rfl | rfl
        · skip
          refine lv_iload_n hx hb dX9_refusal_0 rfl (lv_at hl 1 rfl) ?_
          refine xj_i (wc := ([] : va_W)) (wr := (wAll h cs fI fL fA fQ fG fJ)) hP hD hS hA [] [0, 1, 2, 3, 4, 5, 6, 7, 8, 9, 10, 11, 12, 13, 14, 15, 16, 17, 18, 19, 20, 21, 22, 23, 24, 25, 26, 27, 28, 29, 30, 31, 32, 33, 34, 35, 36, 37, 38, 39, 40, 41, 42, 43, 44, 45, 46, 47, 48, 49, 50, 51, 52, 53, 54, 55, 56, 57, 58, 59, 60, 61] rfl rfl (by decide) (by decide) (va_runS (As := [.int (nI 3)]) (rest := []) ⟨hx, hb, hml, hown, hts⟩ (a_X9_isSheet_141 l dC dI h cs H.size I L A Q G J ) (va_cwS 1 hts gX9_refusal_X9_isSheet rfl rfl rfl (by decide +kernel) ⟨Nat.le_of_ble_eq_true rfl, Nat.le_of_ble_eq_true rfl⟩) (xpS (wc := ([] : va_W)) hP hD hK hN [] rfl (by decide) _) rfl rfl hl.1 rfl (lv_room (Nat.le_of_ble_eq_true rfl)) dX9_refusal_1 ⟨Nat.zero_le _, Nat.zero_le _⟩) (fun r_110 u_109 H locs hw hP hD hS => ?_)
          obtain ⟨hf_111, rfl⟩ := hw
          have hP : va_P (dC, dI) vwCl (wAll h cs fI fL fA fQ fG fJ) H := hP
          have hD : va_D A0 (wAll h cs fI fL fA fQ fG fJ) := hD
          obtain rfl := hf_111
          refine lv_if_eq (tgt := 14) hx hb dX9_refusal_4 (by decide) (fun c9 => False.elim (by revert c9; decide +kernel)) (fun _ => ?_)
          refine lv_iload_n hx hb dX9_refusal_7 rfl (lv_at hl 2 rfl) ?_
          refine xj_i (wc := ([] : va_W)) (wr := (wAll h cs fI fL fA fQ fG fJ)) hP hD hS hA [] [0, 1, 2, 3, 4, 5, 6, 7, 8, 9, 10, 11, 12, 13, 14, 15, 16, 17, 18, 19, 20, 21, 22, 23, 24, 25, 26, 27, 28, 29, 30, 31, 32, 33, 34, 35, 36, 37, 38, 39, 40, 41, 42, 43, 44, 45, 46, 47, 48, 49, 50, 51, 52, 53, 54, 55, 56, 57, 58, 59, 60, 61] rfl rfl (by decide) (by decide) (va_runS (As := [.int (nI 0)]) (rest := []) ⟨hx, hb, hml, hown, hts⟩ (a_X9_isLane_174 l dC dI h cs H.size I L A Q G J ) (va_cwS 1 hts gX9_refusal_X9_isLane rfl rfl rfl (by decide +kernel) ⟨Nat.le_of_ble_eq_true rfl, Nat.le_of_ble_eq_true rfl⟩) (xpS (wc := ([] : va_W)) hP hD hK hN [] rfl (by decide) _) rfl rfl hl.1 rfl (lv_room (Nat.le_of_ble_eq_true rfl)) dX9_refusal_8 ⟨Nat.zero_le _, Nat.zero_le _⟩) (fun r_113 u_112 H locs hw hP hD hS => ?_)
          obtain ⟨hf_114, rfl⟩ := hw
          have hP : va_P (dC, dI) vwCl (wAll h cs fI fL fA fQ fG fJ) H := hP
          have hD : va_D A0 (wAll h cs fI fL fA fQ fG fJ) := hD
          obtain rfl := hf_114
          refine lv_if_ne (tgt := 16) hx hb dX9_refusal_11 (by decide) (fun _ => ?_) (fun c9 => False.elim (by revert c9; decide +kernel))
          refine lv_aload_n hx hb dX9_refusal_16 rfl (lv_at hl 0 rfl) ?_
          refine va_get (D := (dC, dI)) (ci := 9) (v := .ref (h 109)) (C := RX9) (T := TX9) (N := 9) hx hb hts hinX9 hown hK hP 0 rfl rfl 8 (by decide) (hts (.fieldLink RX9 71 "MixedWords" "sheets" "[LMixedWords$Sheet;") (by decide +kernel)) (fun _ h9 => h9) rfl dX9_refusal_17 ?_
          refine lv_iload_n hx hb dX9_refusal_20 rfl (lv_at hl 1 rfl) ?_
          refine xa_aald (b := h 113) hx hb hK hP 53 5 rfl rfl rfl (by omega) (by decide) (if_pos (by omega)) dX9_refusal_21 ?_
          refine xj_i (wc := (wD_142 h cs fI fL fA fQ fG fJ)) (wr := [(h 100, .inr (9, [.ref (h 101), .ref (h 102), .ref (h 103), .ref (h 104), .ref (h 105), .ref (h 106), .ref (h 107), .ref (h 108), .ref (h 109)])), (h 101, .inr (3, [.int (fI 120), .int (fI 121), .int (fI 122), .int (fI 123), .ref (h 130), .ref (h 136)])), (h 130, .inl (cs 3, 5, .inr (.inr (.inr (.inr (fun i => if i < 5 then some (h (i + 131)) else none)))))), (h 131, .inl (cs 0, 4, .inl ((fG 0) 0))), (h 132, .inl (cs 0, 4, .inl ((fG 0) 1))), (h 133, .inl (cs 0, 4, .inl ((fG 0) 2))), (h 134, .inl (cs 0, 4, .inl ((fG 0) 3))), (h 135, .inl (cs 0, 4, .inl ((fG 0) 4))), (h 136, .inl (cs 0, 5, .inl (fA 136))), (h 102, .inr (0, [.ref (h 101), .ref (h 140), .ref (h 141), .ref (h 142), .ref (h 143), .int (fI 144), .int (fI 145), .int (fI 146)])), (h 140, .inl (cs 0, 40, .inl (fA 140))), (h 141, .inl (cs 0, 40, .inl (fA 141))), (h 142, .inl (cs 0, 40, .inl (fA 142))), (h 143, .inl (cs 0, 40, .inl (fA 143))), (h 103, .inr (7, [.ref (h 150), .int (fI 151)])), (h 150, .inl (cs 2, 90, .inl (fA 150))), (h 104, .inr (4, [.ref (h 103), .ref (h 160), .int (fI 166), .int (fI 167), .int (fI 168), .int (fI 169)])), (h 160, .inl (cs 3, 5, .inr (.inr (.inr (.inr (fun i => if i < 5 then some (h (i + 161)) else none)))))), (h 161, .inl (cs 0, 4, .inl ((fG 1) 0))), (h 162, .inl (cs 0, 4, .inl ((fG 1) 1))), (h 163, .inl (cs 0, 4, .inl ((fG 1) 2))), (h 164, .inl (cs 0, 4, .inl ((fG 1) 3))), (h 165, .inl (cs 0, 4, .inl ((fG 1) 4))), (h 105, .inr (8, [.ref (h 101), .ref (h 170), .ref (h 171), .ref (h 172), .int (fI 173), .int (fI 174)])), (h 170, .inl (cs 0, 256, .inl (fA 170))), (h 171, .inl (cs 0, 256, .inl (fA 171))), (h 172, .inl (cs 0, 256, .inl (fA 172))), (h 106, .inr (2, [.ref (h 180), .ref (h 185), .ref (h 186), .ref (h 187), .long (fL 188)])), (h 180, .inl (cs 4, 4, .inr (.inr (.inr (.inr (fun i => if i < 4 then some (h (i + 181)) else none)))))), (h 181, .inl (cs 1, 4, .inr (.inl ((fJ 0) 0)))), (h 182, .inl (cs 1, 4, .inr (.inl ((fJ 0) 1)))), (h 183, .inl (cs 1, 4, .inr (.inl ((fJ 0) 2)))), (h 184, .inl (cs 1, 4, .inr (.inl ((fJ 0) 3)))), (h 185, .inl (cs 1, 4, .inr (.inl (fQ 185)))), (h 186, .inl (cs 0, 4, .inl (fA 186))), (h 187, .inl (cs 1, 4, .inr (.inl (fQ 187)))), (h 107, .inr (6, [.ref (h 101), .ref (h 190), .ref (h 191), .ref (h 192)])), (h 190, .inl (cs 0, 5, .inl (fA 190))), (h 191, .inl (cs 0, 4, .inl (fA 191))), (h 192, .inl (cs 0, 4, .inl (fA 192))), (h 108, .inr (1, [.ref (h 101), .ref (h 200), .ref (h 206), .ref (h 211), .int (fI 212), .int (fI 213)])), (h 200, .inl (cs 3, 5, .inr (.inr (.inr (.inr (fun i => if i < 5 then some (h (i + 201)) else none)))))), (h 201, .inl (cs 0, 4, .inl ((fG 2) 0))), (h 202, .inl (cs 0, 4, .inl ((fG 2) 1))), (h 203, .inl (cs 0, 4, .inl ((fG 2) 2))), (h 204, .inl (cs 0, 4, .inl ((fG 2) 3))), (h 205, .inl (cs 0, 4, .inl ((fG 2) 4))), (h 206, .inl (cs 3, 4, .inr (.inr (.inr (.inr (fun i => if i < 4 then some (h (i + 207)) else none)))))), (h 207, .inl (cs 0, 4, .inl ((fG 3) 0))), (h 208, .inl (cs 0, 4, .inl ((fG 3) 1))), (h 209, .inl (cs 0, 4, .inl ((fG 3) 2))), (h 210, .inl (cs 0, 4, .inl ((fG 3) 3))), (h 211, .inl (cs 0, 5, .inl (fA 211))), (h 109, .inl (cs 5, 4, .inr (.inr (.inr (.inr (fun i => if i < 4 then some (h (i + 110)) else none)))))), (h 110, .inr (5, [.int (fI 220), .int (fI 224), .ref (h 228)])), (h 228, .inl (cs 1, 25, .inr (.inl (fQ 228)))), (h 111, .inr (5, [.int (fI 221), .int (fI 225), .ref (h 229)])), (h 229, .inl (cs 1, 25, .inr (.inl (fQ 229)))), (h 112, .inr (5, [.int (fI 222), .int (fI 226), .ref (h 230)])), (h 230, .inl (cs 1, 25, .inr (.inl (fQ 230))))]) hP hD hS hA [60, 61] [0, 1, 2, 3, 4, 5, 6, 7, 8, 9, 10, 11, 12, 13, 14, 15, 16, 17, 18, 19, 20, 21, 22, 23, 24, 25, 26, 27, 28, 29, 30, 31, 32, 33, 34, 35, 36, 37, 38, 39, 40, 41, 42, 43, 44, 45, 46, 47, 48, 49, 50, 51, 52, 53, 54, 55, 56, 57, 58, 59] rfl rfl (by decide) (by decide) (va_runV (As := []) (rest := []) ⟨hx, hb, hml, hown, hts⟩ (a_X5_holds_143 l dC dI h cs H.size fI fL fA fQ fG fJ ) (cwV 0 hts gX9_refusal_X5_holds rfl rfl rfl (by decide +kernel) ⟨Nat.le_of_ble_eq_true rfl, Nat.le_of_ble_eq_true rfl⟩) (xpV (wc := (wD_142 h cs fI fL fA fQ fG fJ)) hP hD hK hN [60, 61] rfl (by decide) 60 (ci := 5) rfl rfl _) rfl rfl hl.1 rfl (lv_room (Nat.le_of_ble_eq_true rfl)) dX9_refusal_22 ⟨Nat.zero_le _, Nat.zero_le _⟩) (fun r_116 u_115 H locs hw hP hD hS => ?_)
          obtain ⟨hf_117, rfl⟩ := hw
          have hP : va_P (dC, dI) vwCl (wAll h cs fI fL fA fQ fG fJ) H := hP
          have hD : va_D A0 (wAll h cs fI fL fA fQ fG fJ) := hD
          obtain rfl := hf_117
          refine lv_if_ne (tgt := 31) hx hb dX9_refusal_25 (by decide) (fun c9 => False.elim (by revert c9; decide +kernel)) (fun _ => ?_)
          refine lv_bipush (v := (-11)) hx hb dX9_refusal_28 (by decide) ?_
          exact xr_i (v := (-11)) hx hb hr hlocks hK hS dX9_refusal_30 (fI, fL, fA, fQ, fG, fJ) ⟨(by decide +kernel), rfl⟩ hP hD
        · skip
          refine lv_iload_n hx hb dX9_refusal_0 rfl (lv_at hl 1 rfl) ?_
          refine xj_i (wc := ([] : va_W)) (wr := (wAll h cs fI fL fA fQ fG fJ)) hP hD hS hA [] [0, 1, 2, 3, 4, 5, 6, 7, 8, 9, 10, 11, 12, 13, 14, 15, 16, 17, 18, 19, 20, 21, 22, 23, 24, 25, 26, 27, 28, 29, 30, 31, 32, 33, 34, 35, 36, 37, 38, 39, 40, 41, 42, 43, 44, 45, 46, 47, 48, 49, 50, 51, 52, 53, 54, 55, 56, 57, 58, 59, 60, 61] rfl rfl (by decide) (by decide) (va_runS (As := [.int (nI 3)]) (rest := []) ⟨hx, hb, hml, hown, hts⟩ (a_X9_isSheet_141 l dC dI h cs H.size I L A Q G J ) (va_cwS 1 hts gX9_refusal_X9_isSheet rfl rfl rfl (by decide +kernel) ⟨Nat.le_of_ble_eq_true rfl, Nat.le_of_ble_eq_true rfl⟩) (xpS (wc := ([] : va_W)) hP hD hK hN [] rfl (by decide) _) rfl rfl hl.1 rfl (lv_room (Nat.le_of_ble_eq_true rfl)) dX9_refusal_1 ⟨Nat.zero_le _, Nat.zero_le _⟩) (fun r_119 u_118 H locs hw hP hD hS => ?_)
          obtain ⟨hf_120, rfl⟩ := hw
          have hP : va_P (dC, dI) vwCl (wAll h cs fI fL fA fQ fG fJ) H := hP
          have hD : va_D A0 (wAll h cs fI fL fA fQ fG fJ) := hD
          obtain rfl := hf_120
          refine lv_if_eq (tgt := 14) hx hb dX9_refusal_4 (by decide) (fun c9 => False.elim (by revert c9; decide +kernel)) (fun _ => ?_)
          refine lv_iload_n hx hb dX9_refusal_7 rfl (lv_at hl 2 rfl) ?_
          refine xj_i (wc := ([] : va_W)) (wr := (wAll h cs fI fL fA fQ fG fJ)) hP hD hS hA [] [0, 1, 2, 3, 4, 5, 6, 7, 8, 9, 10, 11, 12, 13, 14, 15, 16, 17, 18, 19, 20, 21, 22, 23, 24, 25, 26, 27, 28, 29, 30, 31, 32, 33, 34, 35, 36, 37, 38, 39, 40, 41, 42, 43, 44, 45, 46, 47, 48, 49, 50, 51, 52, 53, 54, 55, 56, 57, 58, 59, 60, 61] rfl rfl (by decide) (by decide) (va_runS (As := [.int (nI 1)]) (rest := []) ⟨hx, hb, hml, hown, hts⟩ (a_X9_isLane_175 l dC dI h cs H.size I L A Q G J ) (va_cwS 1 hts gX9_refusal_X9_isLane rfl rfl rfl (by decide +kernel) ⟨Nat.le_of_ble_eq_true rfl, Nat.le_of_ble_eq_true rfl⟩) (xpS (wc := ([] : va_W)) hP hD hK hN [] rfl (by decide) _) rfl rfl hl.1 rfl (lv_room (Nat.le_of_ble_eq_true rfl)) dX9_refusal_8 ⟨Nat.zero_le _, Nat.zero_le _⟩) (fun r_122 u_121 H locs hw hP hD hS => ?_)
          obtain ⟨hf_123, rfl⟩ := hw
          have hP : va_P (dC, dI) vwCl (wAll h cs fI fL fA fQ fG fJ) H := hP
          have hD : va_D A0 (wAll h cs fI fL fA fQ fG fJ) := hD
          obtain rfl := hf_123
          refine lv_if_ne (tgt := 16) hx hb dX9_refusal_11 (by decide) (fun _ => ?_) (fun c9 => False.elim (by revert c9; decide +kernel))
          refine lv_aload_n hx hb dX9_refusal_16 rfl (lv_at hl 0 rfl) ?_
          refine va_get (D := (dC, dI)) (ci := 9) (v := .ref (h 109)) (C := RX9) (T := TX9) (N := 9) hx hb hts hinX9 hown hK hP 0 rfl rfl 8 (by decide) (hts (.fieldLink RX9 71 "MixedWords" "sheets" "[LMixedWords$Sheet;") (by decide +kernel)) (fun _ h9 => h9) rfl dX9_refusal_17 ?_
          refine lv_iload_n hx hb dX9_refusal_20 rfl (lv_at hl 1 rfl) ?_
          refine xa_aald (b := h 113) hx hb hK hP 53 5 rfl rfl rfl (by omega) (by decide) (if_pos (by omega)) dX9_refusal_21 ?_
          refine xj_i (wc := (wD_142 h cs fI fL fA fQ fG fJ)) (wr := [(h 100, .inr (9, [.ref (h 101), .ref (h 102), .ref (h 103), .ref (h 104), .ref (h 105), .ref (h 106), .ref (h 107), .ref (h 108), .ref (h 109)])), (h 101, .inr (3, [.int (fI 120), .int (fI 121), .int (fI 122), .int (fI 123), .ref (h 130), .ref (h 136)])), (h 130, .inl (cs 3, 5, .inr (.inr (.inr (.inr (fun i => if i < 5 then some (h (i + 131)) else none)))))), (h 131, .inl (cs 0, 4, .inl ((fG 0) 0))), (h 132, .inl (cs 0, 4, .inl ((fG 0) 1))), (h 133, .inl (cs 0, 4, .inl ((fG 0) 2))), (h 134, .inl (cs 0, 4, .inl ((fG 0) 3))), (h 135, .inl (cs 0, 4, .inl ((fG 0) 4))), (h 136, .inl (cs 0, 5, .inl (fA 136))), (h 102, .inr (0, [.ref (h 101), .ref (h 140), .ref (h 141), .ref (h 142), .ref (h 143), .int (fI 144), .int (fI 145), .int (fI 146)])), (h 140, .inl (cs 0, 40, .inl (fA 140))), (h 141, .inl (cs 0, 40, .inl (fA 141))), (h 142, .inl (cs 0, 40, .inl (fA 142))), (h 143, .inl (cs 0, 40, .inl (fA 143))), (h 103, .inr (7, [.ref (h 150), .int (fI 151)])), (h 150, .inl (cs 2, 90, .inl (fA 150))), (h 104, .inr (4, [.ref (h 103), .ref (h 160), .int (fI 166), .int (fI 167), .int (fI 168), .int (fI 169)])), (h 160, .inl (cs 3, 5, .inr (.inr (.inr (.inr (fun i => if i < 5 then some (h (i + 161)) else none)))))), (h 161, .inl (cs 0, 4, .inl ((fG 1) 0))), (h 162, .inl (cs 0, 4, .inl ((fG 1) 1))), (h 163, .inl (cs 0, 4, .inl ((fG 1) 2))), (h 164, .inl (cs 0, 4, .inl ((fG 1) 3))), (h 165, .inl (cs 0, 4, .inl ((fG 1) 4))), (h 105, .inr (8, [.ref (h 101), .ref (h 170), .ref (h 171), .ref (h 172), .int (fI 173), .int (fI 174)])), (h 170, .inl (cs 0, 256, .inl (fA 170))), (h 171, .inl (cs 0, 256, .inl (fA 171))), (h 172, .inl (cs 0, 256, .inl (fA 172))), (h 106, .inr (2, [.ref (h 180), .ref (h 185), .ref (h 186), .ref (h 187), .long (fL 188)])), (h 180, .inl (cs 4, 4, .inr (.inr (.inr (.inr (fun i => if i < 4 then some (h (i + 181)) else none)))))), (h 181, .inl (cs 1, 4, .inr (.inl ((fJ 0) 0)))), (h 182, .inl (cs 1, 4, .inr (.inl ((fJ 0) 1)))), (h 183, .inl (cs 1, 4, .inr (.inl ((fJ 0) 2)))), (h 184, .inl (cs 1, 4, .inr (.inl ((fJ 0) 3)))), (h 185, .inl (cs 1, 4, .inr (.inl (fQ 185)))), (h 186, .inl (cs 0, 4, .inl (fA 186))), (h 187, .inl (cs 1, 4, .inr (.inl (fQ 187)))), (h 107, .inr (6, [.ref (h 101), .ref (h 190), .ref (h 191), .ref (h 192)])), (h 190, .inl (cs 0, 5, .inl (fA 190))), (h 191, .inl (cs 0, 4, .inl (fA 191))), (h 192, .inl (cs 0, 4, .inl (fA 192))), (h 108, .inr (1, [.ref (h 101), .ref (h 200), .ref (h 206), .ref (h 211), .int (fI 212), .int (fI 213)])), (h 200, .inl (cs 3, 5, .inr (.inr (.inr (.inr (fun i => if i < 5 then some (h (i + 201)) else none)))))), (h 201, .inl (cs 0, 4, .inl ((fG 2) 0))), (h 202, .inl (cs 0, 4, .inl ((fG 2) 1))), (h 203, .inl (cs 0, 4, .inl ((fG 2) 2))), (h 204, .inl (cs 0, 4, .inl ((fG 2) 3))), (h 205, .inl (cs 0, 4, .inl ((fG 2) 4))), (h 206, .inl (cs 3, 4, .inr (.inr (.inr (.inr (fun i => if i < 4 then some (h (i + 207)) else none)))))), (h 207, .inl (cs 0, 4, .inl ((fG 3) 0))), (h 208, .inl (cs 0, 4, .inl ((fG 3) 1))), (h 209, .inl (cs 0, 4, .inl ((fG 3) 2))), (h 210, .inl (cs 0, 4, .inl ((fG 3) 3))), (h 211, .inl (cs 0, 5, .inl (fA 211))), (h 109, .inl (cs 5, 4, .inr (.inr (.inr (.inr (fun i => if i < 4 then some (h (i + 110)) else none)))))), (h 110, .inr (5, [.int (fI 220), .int (fI 224), .ref (h 228)])), (h 228, .inl (cs 1, 25, .inr (.inl (fQ 228)))), (h 111, .inr (5, [.int (fI 221), .int (fI 225), .ref (h 229)])), (h 229, .inl (cs 1, 25, .inr (.inl (fQ 229)))), (h 112, .inr (5, [.int (fI 222), .int (fI 226), .ref (h 230)])), (h 230, .inl (cs 1, 25, .inr (.inl (fQ 230))))]) hP hD hS hA [60, 61] [0, 1, 2, 3, 4, 5, 6, 7, 8, 9, 10, 11, 12, 13, 14, 15, 16, 17, 18, 19, 20, 21, 22, 23, 24, 25, 26, 27, 28, 29, 30, 31, 32, 33, 34, 35, 36, 37, 38, 39, 40, 41, 42, 43, 44, 45, 46, 47, 48, 49, 50, 51, 52, 53, 54, 55, 56, 57, 58, 59] rfl rfl (by decide) (by decide) (va_runV (As := []) (rest := []) ⟨hx, hb, hml, hown, hts⟩ (a_X5_holds_143 l dC dI h cs H.size fI fL fA fQ fG fJ ) (cwV 0 hts gX9_refusal_X5_holds rfl rfl rfl (by decide +kernel) ⟨Nat.le_of_ble_eq_true rfl, Nat.le_of_ble_eq_true rfl⟩) (xpV (wc := (wD_142 h cs fI fL fA fQ fG fJ)) hP hD hK hN [60, 61] rfl (by decide) 60 (ci := 5) rfl rfl _) rfl rfl hl.1 rfl (lv_room (Nat.le_of_ble_eq_true rfl)) dX9_refusal_22 ⟨Nat.zero_le _, Nat.zero_le _⟩) (fun r_125 u_124 H locs hw hP hD hS => ?_)
          obtain ⟨hf_126, rfl⟩ := hw
          have hP : va_P (dC, dI) vwCl (wAll h cs fI fL fA fQ fG fJ) H := hP
          have hD : va_D A0 (wAll h cs fI fL fA fQ fG fJ) := hD
          obtain rfl := hf_126
          refine lv_if_ne (tgt := 31) hx hb dX9_refusal_25 (by decide) (fun c9 => False.elim (by revert c9; decide +kernel)) (fun _ => ?_)
          refine lv_bipush (v := (-11)) hx hb dX9_refusal_28 (by decide) ?_
          exact xr_i (v := (-11)) hx hb hr hlocks hK hS dX9_refusal_30 (fI, fL, fA, fQ, fG, fJ) ⟨(by decide +kernel), rfl⟩ hP hD
        · skip
          refine lv_iload_n hx hb dX9_refusal_0 rfl (lv_at hl 1 rfl) ?_
          refine xj_i (wc := ([] : va_W)) (wr := (wAll h cs fI fL fA fQ fG fJ)) hP hD hS hA [] [0, 1, 2, 3, 4, 5, 6, 7, 8, 9, 10, 11, 12, 13, 14, 15, 16, 17, 18, 19, 20, 21, 22, 23, 24, 25, 26, 27, 28, 29, 30, 31, 32, 33, 34, 35, 36, 37, 38, 39, 40, 41, 42, 43, 44, 45, 46, 47, 48, 49, 50, 51, 52, 53, 54, 55, 56, 57, 58, 59, 60, 61] rfl rfl (by decide) (by decide) (va_runS (As := [.int (nI 3)]) (rest := []) ⟨hx, hb, hml, hown, hts⟩ (a_X9_isSheet_141 l dC dI h cs H.size I L A Q G J ) (va_cwS 1 hts gX9_refusal_X9_isSheet rfl rfl rfl (by decide +kernel) ⟨Nat.le_of_ble_eq_true rfl, Nat.le_of_ble_eq_true rfl⟩) (xpS (wc := ([] : va_W)) hP hD hK hN [] rfl (by decide) _) rfl rfl hl.1 rfl (lv_room (Nat.le_of_ble_eq_true rfl)) dX9_refusal_1 ⟨Nat.zero_le _, Nat.zero_le _⟩) (fun r_128 u_127 H locs hw hP hD hS => ?_)
          obtain ⟨hf_129, rfl⟩ := hw
          have hP : va_P (dC, dI) vwCl (wAll h cs fI fL fA fQ fG fJ) H := hP
          have hD : va_D A0 (wAll h cs fI fL fA fQ fG fJ) := hD
          obtain rfl := hf_129
          refine lv_if_eq (tgt := 14) hx hb dX9_refusal_4 (by decide) (fun c9 => False.elim (by revert c9; decide +kernel)) (fun _ => ?_)
          refine lv_iload_n hx hb dX9_refusal_7 rfl (lv_at hl 2 rfl) ?_
          refine xj_i (wc := ([] : va_W)) (wr := (wAll h cs fI fL fA fQ fG fJ)) hP hD hS hA [] [0, 1, 2, 3, 4, 5, 6, 7, 8, 9, 10, 11, 12, 13, 14, 15, 16, 17, 18, 19, 20, 21, 22, 23, 24, 25, 26, 27, 28, 29, 30, 31, 32, 33, 34, 35, 36, 37, 38, 39, 40, 41, 42, 43, 44, 45, 46, 47, 48, 49, 50, 51, 52, 53, 54, 55, 56, 57, 58, 59, 60, 61] rfl rfl (by decide) (by decide) (va_runS (As := [.int (nI 2)]) (rest := []) ⟨hx, hb, hml, hown, hts⟩ (a_X9_isLane_176 l dC dI h cs H.size I L A Q G J ) (va_cwS 1 hts gX9_refusal_X9_isLane rfl rfl rfl (by decide +kernel) ⟨Nat.le_of_ble_eq_true rfl, Nat.le_of_ble_eq_true rfl⟩) (xpS (wc := ([] : va_W)) hP hD hK hN [] rfl (by decide) _) rfl rfl hl.1 rfl (lv_room (Nat.le_of_ble_eq_true rfl)) dX9_refusal_8 ⟨Nat.zero_le _, Nat.zero_le _⟩) (fun r_131 u_130 H locs hw hP hD hS => ?_)
          obtain ⟨hf_132, rfl⟩ := hw
          have hP : va_P (dC, dI) vwCl (wAll h cs fI fL fA fQ fG fJ) H := hP
          have hD : va_D A0 (wAll h cs fI fL fA fQ fG fJ) := hD
          obtain rfl := hf_132
          refine lv_if_ne (tgt := 16) hx hb dX9_refusal_11 (by decide) (fun _ => ?_) (fun c9 => False.elim (by revert c9; decide +kernel))
          refine lv_aload_n hx hb dX9_refusal_16 rfl (lv_at hl 0 rfl) ?_
          refine va_get (D := (dC, dI)) (ci := 9) (v := .ref (h 109)) (C := RX9) (T := TX9) (N := 9) hx hb hts hinX9 hown hK hP 0 rfl rfl 8 (by decide) (hts (.fieldLink RX9 71 "MixedWords" "sheets" "[LMixedWords$Sheet;") (by decide +kernel)) (fun _ h9 => h9) rfl dX9_refusal_17 ?_
          refine lv_iload_n hx hb dX9_refusal_20 rfl (lv_at hl 1 rfl) ?_
          refine xa_aald (b := h 113) hx hb hK hP 53 5 rfl rfl rfl (by omega) (by decide) (if_pos (by omega)) dX9_refusal_21 ?_
          refine xj_i (wc := (wD_142 h cs fI fL fA fQ fG fJ)) (wr := [(h 100, .inr (9, [.ref (h 101), .ref (h 102), .ref (h 103), .ref (h 104), .ref (h 105), .ref (h 106), .ref (h 107), .ref (h 108), .ref (h 109)])), (h 101, .inr (3, [.int (fI 120), .int (fI 121), .int (fI 122), .int (fI 123), .ref (h 130), .ref (h 136)])), (h 130, .inl (cs 3, 5, .inr (.inr (.inr (.inr (fun i => if i < 5 then some (h (i + 131)) else none)))))), (h 131, .inl (cs 0, 4, .inl ((fG 0) 0))), (h 132, .inl (cs 0, 4, .inl ((fG 0) 1))), (h 133, .inl (cs 0, 4, .inl ((fG 0) 2))), (h 134, .inl (cs 0, 4, .inl ((fG 0) 3))), (h 135, .inl (cs 0, 4, .inl ((fG 0) 4))), (h 136, .inl (cs 0, 5, .inl (fA 136))), (h 102, .inr (0, [.ref (h 101), .ref (h 140), .ref (h 141), .ref (h 142), .ref (h 143), .int (fI 144), .int (fI 145), .int (fI 146)])), (h 140, .inl (cs 0, 40, .inl (fA 140))), (h 141, .inl (cs 0, 40, .inl (fA 141))), (h 142, .inl (cs 0, 40, .inl (fA 142))), (h 143, .inl (cs 0, 40, .inl (fA 143))), (h 103, .inr (7, [.ref (h 150), .int (fI 151)])), (h 150, .inl (cs 2, 90, .inl (fA 150))), (h 104, .inr (4, [.ref (h 103), .ref (h 160), .int (fI 166), .int (fI 167), .int (fI 168), .int (fI 169)])), (h 160, .inl (cs 3, 5, .inr (.inr (.inr (.inr (fun i => if i < 5 then some (h (i + 161)) else none)))))), (h 161, .inl (cs 0, 4, .inl ((fG 1) 0))), (h 162, .inl (cs 0, 4, .inl ((fG 1) 1))), (h 163, .inl (cs 0, 4, .inl ((fG 1) 2))), (h 164, .inl (cs 0, 4, .inl ((fG 1) 3))), (h 165, .inl (cs 0, 4, .inl ((fG 1) 4))), (h 105, .inr (8, [.ref (h 101), .ref (h 170), .ref (h 171), .ref (h 172), .int (fI 173), .int (fI 174)])), (h 170, .inl (cs 0, 256, .inl (fA 170))), (h 171, .inl (cs 0, 256, .inl (fA 171))), (h 172, .inl (cs 0, 256, .inl (fA 172))), (h 106, .inr (2, [.ref (h 180), .ref (h 185), .ref (h 186), .ref (h 187), .long (fL 188)])), (h 180, .inl (cs 4, 4, .inr (.inr (.inr (.inr (fun i => if i < 4 then some (h (i + 181)) else none)))))), (h 181, .inl (cs 1, 4, .inr (.inl ((fJ 0) 0)))), (h 182, .inl (cs 1, 4, .inr (.inl ((fJ 0) 1)))), (h 183, .inl (cs 1, 4, .inr (.inl ((fJ 0) 2)))), (h 184, .inl (cs 1, 4, .inr (.inl ((fJ 0) 3)))), (h 185, .inl (cs 1, 4, .inr (.inl (fQ 185)))), (h 186, .inl (cs 0, 4, .inl (fA 186))), (h 187, .inl (cs 1, 4, .inr (.inl (fQ 187)))), (h 107, .inr (6, [.ref (h 101), .ref (h 190), .ref (h 191), .ref (h 192)])), (h 190, .inl (cs 0, 5, .inl (fA 190))), (h 191, .inl (cs 0, 4, .inl (fA 191))), (h 192, .inl (cs 0, 4, .inl (fA 192))), (h 108, .inr (1, [.ref (h 101), .ref (h 200), .ref (h 206), .ref (h 211), .int (fI 212), .int (fI 213)])), (h 200, .inl (cs 3, 5, .inr (.inr (.inr (.inr (fun i => if i < 5 then some (h (i + 201)) else none)))))), (h 201, .inl (cs 0, 4, .inl ((fG 2) 0))), (h 202, .inl (cs 0, 4, .inl ((fG 2) 1))), (h 203, .inl (cs 0, 4, .inl ((fG 2) 2))), (h 204, .inl (cs 0, 4, .inl ((fG 2) 3))), (h 205, .inl (cs 0, 4, .inl ((fG 2) 4))), (h 206, .inl (cs 3, 4, .inr (.inr (.inr (.inr (fun i => if i < 4 then some (h (i + 207)) else none)))))), (h 207, .inl (cs 0, 4, .inl ((fG 3) 0))), (h 208, .inl (cs 0, 4, .inl ((fG 3) 1))), (h 209, .inl (cs 0, 4, .inl ((fG 3) 2))), (h 210, .inl (cs 0, 4, .inl ((fG 3) 3))), (h 211, .inl (cs 0, 5, .inl (fA 211))), (h 109, .inl (cs 5, 4, .inr (.inr (.inr (.inr (fun i => if i < 4 then some (h (i + 110)) else none)))))), (h 110, .inr (5, [.int (fI 220), .int (fI 224), .ref (h 228)])), (h 228, .inl (cs 1, 25, .inr (.inl (fQ 228)))), (h 111, .inr (5, [.int (fI 221), .int (fI 225), .ref (h 229)])), (h 229, .inl (cs 1, 25, .inr (.inl (fQ 229)))), (h 112, .inr (5, [.int (fI 222), .int (fI 226), .ref (h 230)])), (h 230, .inl (cs 1, 25, .inr (.inl (fQ 230))))]) hP hD hS hA [60, 61] [0, 1, 2, 3, 4, 5, 6, 7, 8, 9, 10, 11, 12, 13, 14, 15, 16, 17, 18, 19, 20, 21, 22, 23, 24, 25, 26, 27, 28, 29, 30, 31, 32, 33, 34, 35, 36, 37, 38, 39, 40, 41, 42, 43, 44, 45, 46, 47, 48, 49, 50, 51, 52, 53, 54, 55, 56, 57, 58, 59] rfl rfl (by decide) (by decide) (va_runV (As := []) (rest := []) ⟨hx, hb, hml, hown, hts⟩ (a_X5_holds_143 l dC dI h cs H.size fI fL fA fQ fG fJ ) (cwV 0 hts gX9_refusal_X5_holds rfl rfl rfl (by decide +kernel) ⟨Nat.le_of_ble_eq_true rfl, Nat.le_of_ble_eq_true rfl⟩) (xpV (wc := (wD_142 h cs fI fL fA fQ fG fJ)) hP hD hK hN [60, 61] rfl (by decide) 60 (ci := 5) rfl rfl _) rfl rfl hl.1 rfl (lv_room (Nat.le_of_ble_eq_true rfl)) dX9_refusal_22 ⟨Nat.zero_le _, Nat.zero_le _⟩) (fun r_134 u_133 H locs hw hP hD hS => ?_)
          obtain ⟨hf_135, rfl⟩ := hw
          have hP : va_P (dC, dI) vwCl (wAll h cs fI fL fA fQ fG fJ) H := hP
          have hD : va_D A0 (wAll h cs fI fL fA fQ fG fJ) := hD
          obtain rfl := hf_135
          refine lv_if_ne (tgt := 31) hx hb dX9_refusal_25 (by decide) (fun c9 => False.elim (by revert c9; decide +kernel)) (fun _ => ?_)
          refine lv_bipush (v := (-11)) hx hb dX9_refusal_28 (by decide) ?_
          exact xr_i (v := (-11)) hx hb hr hlocks hK hS dX9_refusal_30 (fI, fL, fA, fQ, fG, fJ) ⟨(by decide +kernel), rfl⟩ hP hD
      · skip
        refine lv_iload_n hx hb dX9_refusal_0 rfl (lv_at hl 1 rfl) ?_
        refine xj_i (wc := ([] : va_W)) (wr := (wAll h cs fI fL fA fQ fG fJ)) hP hD hS hA [] [0, 1, 2, 3, 4, 5, 6, 7, 8, 9, 10, 11, 12, 13, 14, 15, 16, 17, 18, 19, 20, 21, 22, 23, 24, 25, 26, 27, 28, 29, 30, 31, 32, 33, 34, 35, 36, 37, 38, 39, 40, 41, 42, 43, 44, 45, 46, 47, 48, 49, 50, 51, 52, 53, 54, 55, 56, 57, 58, 59, 60, 61] rfl rfl (by decide) (by decide) (va_runS (As := [.int (nI 3)]) (rest := []) ⟨hx, hb, hml, hown, hts⟩ (a_X9_isSheet_141 l dC dI h cs H.size I L A Q G J ) (va_cwS 1 hts gX9_refusal_X9_isSheet rfl rfl rfl (by decide +kernel) ⟨Nat.le_of_ble_eq_true rfl, Nat.le_of_ble_eq_true rfl⟩) (xpS (wc := ([] : va_W)) hP hD hK hN [] rfl (by decide) _) rfl rfl hl.1 rfl (lv_room (Nat.le_of_ble_eq_true rfl)) dX9_refusal_1 ⟨Nat.zero_le _, Nat.zero_le _⟩) (fun r_137 u_136 H locs hw hP hD hS => ?_)
        obtain ⟨hf_138, rfl⟩ := hw
        have hP : va_P (dC, dI) vwCl (wAll h cs fI fL fA fQ fG fJ) H := hP
        have hD : va_D A0 (wAll h cs fI fL fA fQ fG fJ) := hD
        obtain rfl := hf_138
        refine lv_if_eq (tgt := 14) hx hb dX9_refusal_4 (by decide) (fun c9 => False.elim (by revert c9; decide +kernel)) (fun _ => ?_)
        refine lv_iload_n hx hb dX9_refusal_7 rfl (lv_at hl 2 rfl) ?_
        refine xj_i (wc := ([] : va_W)) (wr := (wAll h cs fI fL fA fQ fG fJ)) hP hD hS hA [] [0, 1, 2, 3, 4, 5, 6, 7, 8, 9, 10, 11, 12, 13, 14, 15, 16, 17, 18, 19, 20, 21, 22, 23, 24, 25, 26, 27, 28, 29, 30, 31, 32, 33, 34, 35, 36, 37, 38, 39, 40, 41, 42, 43, 44, 45, 46, 47, 48, 49, 50, 51, 52, 53, 54, 55, 56, 57, 58, 59, 60, 61] rfl rfl (by decide) (by decide) (va_runS (As := [.int y]) (rest := []) ⟨hx, hb, hml, hown, hts⟩ (k_X9_isLane l dC dI h cs H.size I L A Q G J y) (va_cwS 1 hts gX9_refusal_X9_isLane rfl rfl rfl (by decide +kernel) ⟨Nat.le_of_ble_eq_true rfl, Nat.le_of_ble_eq_true rfl⟩) (xpS (wc := ([] : va_W)) hP hD hK hN [] rfl (by decide) _) rfl rfl hl.1 rfl (lv_room (Nat.le_of_ble_eq_true rfl)) dX9_refusal_8 ⟨Nat.zero_le _, Nat.zero_le _⟩) (fun r_140 u_139 H locs hw hP hD hS => ?_)
        obtain ⟨hf_141, rfl⟩ := hw
        have hP : va_P (dC, dI) vwCl (wAll h cs fI fL fA fQ fG fJ) H := hP
        have hD : va_D A0 (wAll h cs fI fL fA fQ fG fJ) := hD
        rcases hf_141 with ⟨rfl, i_142, hh_143, ee_144⟩ | ⟨rfl, -⟩
        · skip
          exact absurd (by rw [ee_144, nI_toInt (by omega)]; omega) hz_y
        · skip
          refine lv_if_ne (tgt := 16) hx hb dX9_refusal_11 (by decide) (fun c9 => False.elim (by revert c9; decide +kernel)) (fun _ => ?_)
          refine lv_iconst (v := (-1)) hx hb dX9_refusal_14 (by decide) ?_
          exact xr_i (v := (-1)) hx hb hr hlocks hK hS dX9_refusal_15 (fI, fL, fA, fQ, fG, fJ) ⟨(by unfold an_item; rw [if_neg (by omega)]), rfl⟩ hP hD
  · skip
    refine lv_iload_n hx hb dX9_refusal_0 rfl (lv_at hl 1 rfl) ?_
    refine xj_i (wc := ([] : va_W)) (wr := (wAll h cs fI fL fA fQ fG fJ)) hP hD hS hA [] [0, 1, 2, 3, 4, 5, 6, 7, 8, 9, 10, 11, 12, 13, 14, 15, 16, 17, 18, 19, 20, 21, 22, 23, 24, 25, 26, 27, 28, 29, 30, 31, 32, 33, 34, 35, 36, 37, 38, 39, 40, 41, 42, 43, 44, 45, 46, 47, 48, 49, 50, 51, 52, 53, 54, 55, 56, 57, 58, 59, 60, 61] rfl rfl (by decide) (by decide) (va_runS (As := [.int x]) (rest := []) ⟨hx, hb, hml, hown, hts⟩ (k_X9_isSheet l dC dI h cs H.size I L A Q G J x) (va_cwS 1 hts gX9_refusal_X9_isSheet rfl rfl rfl (by decide +kernel) ⟨Nat.le_of_ble_eq_true rfl, Nat.le_of_ble_eq_true rfl⟩) (xpS (wc := ([] : va_W)) hP hD hK hN [] rfl (by decide) _) rfl rfl hl.1 rfl (lv_room (Nat.le_of_ble_eq_true rfl)) dX9_refusal_1 ⟨Nat.zero_le _, Nat.zero_le _⟩) (fun r_146 u_145 H locs hw hP hD hS => ?_)
    obtain ⟨hf_147, rfl⟩ := hw
    have hP : va_P (dC, dI) vwCl (wAll h cs fI fL fA fQ fG fJ) H := hP
    have hD : va_D A0 (wAll h cs fI fL fA fQ fG fJ) := hD
    rcases hf_147 with ⟨rfl, i_148, hh_149, ee_150⟩ | ⟨rfl, -⟩
    · skip
      exact absurd (by rw [ee_150, nI_toInt (by omega)]; omega) hz_x
    · skip
      refine lv_if_eq (tgt := 14) hx hb dX9_refusal_4 (by decide) (fun _ => ?_) (fun c9 => False.elim (by revert c9; decide +kernel))
      refine lv_iconst (v := (-1)) hx hb dX9_refusal_14 (by decide) ?_
      exact xr_i (v := (-1)) hx hb hr hlocks hK hS dX9_refusal_15 (fI, fL, fA, fQ, fG, fJ) ⟨(by unfold an_item; rw [if_neg (by omega)]), rfl⟩ hP hD
set_option maxRecDepth 20000 in
theorem ggX9_item_X9_refusal : GoodIn wsX9_item wsX9_refusal := goodIn_r _ [6, 1, 7, 8, 9, 10, 5, 11, 12, 13, 14, 15, 16, 17, 18, 19, 20, 26, 27, 28, 29, 30, 31, 32, 33, 34, 35, 36, 37] (by decide +kernel) (by decide +kernel)
set_option maxRecDepth 20000 in
theorem gX9_item_X9_refusal : GoodIn wsX9_item (wsV RX9 284 RX9 yX9_refusal wsX9_refusal) := goodIn_app (goodIn_of _ (by decide +kernel)) ggX9_item_X9_refusal
set_option maxRecDepth 20000 in
theorem ggX9_item_X5_put : GoodIn wsX9_item wsX5_put := goodIn_r _ [24, 25, 20, 35, 36, 37] (by decide +kernel) (by decide +kernel)
set_option maxRecDepth 20000 in
theorem gX9_item_X5_put : GoodIn wsX9_item (wsV RX9 288 RX5 yX5_put wsX5_put) := goodIn_app (goodIn_of _ (by decide +kernel)) ggX9_item_X5_put
theorem dX9_item_0 : decode cX9_item 0 = .ok (.aload_n 0, 1) := by decide +kernel
theorem dX9_item_1 : decode cX9_item 1 = .ok (.iload_n 1, 1) := by decide +kernel
theorem dX9_item_2 : decode cX9_item 2 = .ok (.iload_n 2, 1) := by decide +kernel
theorem dX9_item_3 : decode cX9_item 3 = .ok (.iload_n 3, 1) := by decide +kernel
theorem dX9_item_4 : decode cX9_item 4 = .ok (.iconst 1, 1) := by decide +kernel
theorem dX9_item_5 : decode cX9_item 5 = .ok (.invokevirtual 284, 3) := by decide +kernel
theorem dX9_item_8 : decode cX9_item 8 = .ok (.istore 5, 2) := by decide +kernel
theorem dX9_item_10 : decode cX9_item 10 = .ok (.iload 5, 2) := by decide +kernel
theorem dX9_item_12 : decode cX9_item 12 = .ok (.ifCond .eq 6, 3) := by decide +kernel
theorem dX9_item_15 : decode cX9_item 15 = .ok (.iload 5, 2) := by decide +kernel
theorem dX9_item_17 : decode cX9_item 17 = .ok (.ireturn, 1) := by decide +kernel
theorem dX9_item_18 : decode cX9_item 18 = .ok (.aload_n 0, 1) := by decide +kernel
theorem dX9_item_19 : decode cX9_item 19 = .ok (.getfield 71, 3) := by decide +kernel
theorem dX9_item_22 : decode cX9_item 22 = .ok (.iload_n 1, 1) := by decide +kernel
theorem dX9_item_23 : decode cX9_item 23 = .ok (.aaload, 1) := by decide +kernel
theorem dX9_item_24 : decode cX9_item 24 = .ok (.iload_n 3, 1) := by decide +kernel
theorem dX9_item_25 : decode cX9_item 25 = .ok (.iload 4, 2) := by decide +kernel
theorem dX9_item_27 : decode cX9_item 27 = .ok (.invokevirtual 288, 3) := by decide +kernel
theorem dX9_item_30 : decode cX9_item 30 = .ok (.iconst 1, 1) := by decide +kernel
theorem dX9_item_31 : decode cX9_item 31 = .ok (.ireturn, 1) := by decide +kernel
set_option maxHeartbeats 4000000 in
set_option maxRecDepth 100000 in
theorem f_X9_item (l : Launch) (dC : Nat → ClassId) (dI : Nat → Nat → Nat) (h : Nat → Nat) (cs : Nat → ClassId) (sz : Nat) (I : Nat → Int32) (L : Nat → Int64) (A : Nat → Nat → Int32) (Q : Nat → Nat → Int64) (G : Nat → Nat → Nat → Int32) (J : Nat → Nat → Nat → Int64) (x y z v : Int32) : Met l yX9_item wsX9_item ({ frames := 2, cells := 0, slots := 0, locals := 44 }) (va_Pc [.ref (h 100), .int x, .int y, .int z, .int v] (xPre (dC, dI) (wAll h cs fI fL fA fQ fG fJ) (tysA cs) sz)) (va_Qi (fun (r : Int32) (u : CS) => (r = an_item x y) ∧ u = (fI, fL, fA, fQ, fG, fJ)) (xB (dC, dI) (tysA cs) (va_A (wAll h cs fI fL fA fQ fG fJ) sz) (fun u : CS => wAll h cs u.1 u.2.1 u.2.2.1 u.2.2.2.1 u.2.2.2.2.1 u.2.2.2.2.2)) (va_A (wAll h cs fI fL fA fQ fG fJ) sz)) 0 0 (va_A (wAll h cs fI fL fA fQ fG fJ) sz) := by
  refine Met.ofW (cc := cX9_item) (maxL := 6) (ret := (some .int)) (by decide) rfl ?_
  intro p e s m args below meth c s₁ B hml hv
  obtain ⟨rfl, hsz, hP, hK, hD0, hN⟩ := hv
  have hx := B.exec
  have hb := B.bytes
  have hr := B.returns
  have hts := atoms_spec (ws := wsX9_item) B.pre
  have hown : s.vm.findClass RX9 = some m.cls := findClass_of_methodNamed B.named
  have hlocks := B.notSynchronized
  subst hsz
  have hD := hD0.self (sz := s.heap.size)
  generalize hAe : va_A (wAll h cs fI fL fA fQ fG fJ) s.heap.size = A0 at hD ⊢
  have hA : ∀ q : Nat, s.heap.size ≤ q → A0 q := fun q h => by rw [← hAe]; exact Or.inr h
  have hl := lv_entry ([.ref (h 100), .int x, .int y, .int z, .int v]) (n := 6) (Nat.le_of_ble_eq_true rfl)
  rw [lg_entry_eq]
  generalize (lg_sl ([.ref (h 100), .int x, .int y, .int z, .int v]) ++ List.replicate (6 - (lg_sl ([.ref (h 100), .int x, .int y, .int z, .int v])).length) Slot.unset).toArray = ls at hl ⊢
  have hl : lv_has ls 6 [(0, .ref (h 100)), (1, .int x), (2, .int y), (3, .int z), (4, .int v)] := hl
  generalize hH : s.heap = H at hP ⊢
  have hS : va_S A0 s.heap H [] := by rw [← hH]; exact va_S.rf
  have hinX9 : ∀ w ∈ wsX90, w ∈ wsX9_item := by decide +kernel
  refine lv_aload_n hx hb dX9_item_0 rfl (lv_at hl 0 rfl) ?_
  refine lv_iload_n hx hb dX9_item_1 rfl (lv_at hl 1 rfl) ?_
  refine lv_iload_n hx hb dX9_item_2 rfl (lv_at hl 2 rfl) ?_
  refine lv_iload_n hx hb dX9_item_3 rfl (lv_at hl 3 rfl) ?_
  refine lv_iconst (v := nI 1) hx hb dX9_item_4 (by decide) ?_
  refine xj_i (wc := (wAll h cs fI fL fA fQ fG fJ)) (wr := ([] : va_W)) hP hD hS hA [0, 1, 2, 3, 4, 5, 6, 7, 8, 9, 10, 11, 12, 13, 14, 15, 16, 17, 18, 19, 20, 21, 22, 23, 24, 25, 26, 27, 28, 29, 30, 31, 32, 33, 34, 35, 36, 37, 38, 39, 40, 41, 42, 43, 44, 45, 46, 47, 48, 49, 50, 51, 52, 53, 54, 55, 56, 57, 58, 59, 60, 61] [] rfl rfl (by decide) (by decide) (va_runV (As := [.int x, .int y, .int z, .int (nI 1)]) (rest := []) ⟨hx, hb, hml, hown, hts⟩ (f_X9_refusal l dC dI h cs H.size fI fL fA fQ fG fJ x y z (nI 1)) (cwV 4 hts gX9_item_X9_refusal rfl rfl rfl (by decide +kernel) ⟨Nat.le_of_ble_eq_true rfl, Nat.le_of_ble_eq_true rfl⟩) (xpV (wc := (wAll h cs fI fL fA fQ fG fJ)) hP hD hK hN [0, 1, 2, 3, 4, 5, 6, 7, 8, 9, 10, 11, 12, 13, 14, 15, 16, 17, 18, 19, 20, 21, 22, 23, 24, 25, 26, 27, 28, 29, 30, 31, 32, 33, 34, 35, 36, 37, 38, 39, 40, 41, 42, 43, 44, 45, 46, 47, 48, 49, 50, 51, 52, 53, 54, 55, 56, 57, 58, 59, 60, 61] rfl (by decide) 0 (ci := 9) rfl rfl _) rfl rfl hl.1 rfl (lv_room (Nat.le_of_ble_eq_true rfl)) dX9_item_5 ⟨Nat.zero_le _, Nat.zero_le _⟩) (fun r_2 u_1 H locs hw hP hD hS => ?_)
  obtain ⟨hf_3, rfl⟩ := hw
  have hP : va_P (dC, dI) vwCl (wAll h cs fI fL fA fQ fG fJ) H := hP
  have hD : va_D A0 (wAll h cs fI fL fA fQ fG fJ) := hD
  rcases an_item_or x y with e9 | e9
  · skip
    have e8 := hf_3.trans e9
    obtain rfl := e8
    refine lv_istore (lv' := [(5, .int (-11)), (0, .ref (h 100)), (1, .int x), (2, .int y), (3, .int z), (4, .int v)]) hx hb dX9_item_8 hl (by decide) rfl (fun ls hl => ?_)
    refine lv_iload hx hb dX9_item_10 (lv_at hl 0 rfl) ?_
    refine lv_if_eq (tgt := 18) hx hb dX9_item_12 (by decide) (fun c9 => False.elim (by revert c9; decide +kernel)) (fun _ => ?_)
    refine lv_iload hx hb dX9_item_15 (lv_at hl 0 rfl) ?_
    exact xr_i (v := (-11)) hx hb hr hlocks hK hS dX9_item_17 (fI, fL, fA, fQ, fG, fJ) ⟨(e9.symm), rfl⟩ hP hD
  · skip
    have e8 := hf_3.trans e9
    obtain rfl := e8
    refine lv_istore (lv' := [(5, .int (-1)), (0, .ref (h 100)), (1, .int x), (2, .int y), (3, .int z), (4, .int v)]) hx hb dX9_item_8 hl (by decide) rfl (fun ls hl => ?_)
    refine lv_iload hx hb dX9_item_10 (lv_at hl 0 rfl) ?_
    refine lv_if_eq (tgt := 18) hx hb dX9_item_12 (by decide) (fun c9 => False.elim (by revert c9; decide +kernel)) (fun _ => ?_)
    refine lv_iload hx hb dX9_item_15 (lv_at hl 0 rfl) ?_
    exact xr_i (v := (-1)) hx hb hr hlocks hK hS dX9_item_17 (fI, fL, fA, fQ, fG, fJ) ⟨(e9.symm), rfl⟩ hP hD
set_option maxRecDepth 20000 in
theorem ggX9_rows_X9_refusal : GoodIn wsX9_rows wsX9_refusal := goodIn_r _ [11, 4, 12, 13, 14, 15, 10, 16, 17, 18, 19, 20, 21, 22, 23, 24, 25, 54, 55, 56, 57, 58, 59, 60, 61, 62, 69, 70, 71] (by decide +kernel) (by decide +kernel)
set_option maxRecDepth 20000 in
theorem gX9_rows_X9_refusal : GoodIn wsX9_rows (wsV RX9 284 RX9 yX9_refusal wsX9_refusal) := goodIn_app (goodIn_of _ (by decide +kernel)) ggX9_rows_X9_refusal
set_option maxRecDepth 20000 in
theorem ggX9_rows_X3_takes : GoodIn wsX9_rows wsX3_takes := goodIn_r _ [30, 31, 32, 33, 10, 34, 63, 64, 65, 66, 67, 68] (by decide +kernel) (by decide +kernel)
set_option maxRecDepth 20000 in
theorem gX9_rows_X3_takes : GoodIn wsX9_rows (wsV RX9 293 RX3 yX3_takes wsX3_takes) := goodIn_app (goodIn_of _ (by decide +kernel)) ggX9_rows_X3_takes
set_option maxRecDepth 20000 in
theorem ggX9_rows_X3_copy : GoodIn wsX9_rows wsX3_copy := goodIn_r _ [38, 31, 32, 39, 40, 41, 29, 42, 43, 44, 45, 63, 64, 65, 66, 67, 68] (by decide +kernel) (by decide +kernel)
set_option maxRecDepth 20000 in
theorem gX9_rows_X3_copy : GoodIn wsX9_rows (wsV RX9 296 RX3 yX3_copy wsX3_copy) := goodIn_app (goodIn_of _ (by decide +kernel)) ggX9_rows_X3_copy
set_option maxRecDepth 20000 in
theorem ggX9_rows_X0_forget : GoodIn wsX9_rows wsX0_forget := goodIn_r _ [50, 51, 52, 53, 72, 73, 74, 75, 76, 77, 78, 79] (by decide +kernel) (by decide +kernel)
set_option maxRecDepth 20000 in
theorem gX9_rows_X0_forget : GoodIn wsX9_rows (wsV RX9 80 RX0 yX0_forget wsX0_forget) := goodIn_app (goodIn_of _ (by decide +kernel)) ggX9_rows_X0_forget
theorem dX9_rows_0 : decode cX9_rows 0 = .ok (.aload_n 0, 1) := by decide +kernel
theorem dX9_rows_1 : decode cX9_rows 1 = .ok (.iload_n 1, 1) := by decide +kernel
theorem dX9_rows_2 : decode cX9_rows 2 = .ok (.iload_n 2, 1) := by decide +kernel
theorem dX9_rows_3 : decode cX9_rows 3 = .ok (.iload_n 3, 1) := by decide +kernel
theorem dX9_rows_4 : decode cX9_rows 4 = .ok (.aload_n 0, 1) := by decide +kernel
theorem dX9_rows_5 : decode cX9_rows 5 = .ok (.getfield 12, 3) := by decide +kernel
theorem dX9_rows_8 : decode cX9_rows 8 = .ok (.getfield 147, 3) := by decide +kernel
theorem dX9_rows_11 : decode cX9_rows 11 = .ok (.aload_n 0, 1) := by decide +kernel
theorem dX9_rows_12 : decode cX9_rows 12 = .ok (.getfield 12, 3) := by decide +kernel
theorem dX9_rows_15 : decode cX9_rows 15 = .ok (.getfield 106, 3) := by decide +kernel
theorem dX9_rows_18 : decode cX9_rows 18 = .ok (.iconst 1, 1) := by decide +kernel
theorem dX9_rows_19 : decode cX9_rows 19 = .ok (.iadd, 1) := by decide +kernel
theorem dX9_rows_20 : decode cX9_rows 20 = .ok (.imul, 1) := by decide +kernel
theorem dX9_rows_21 : decode cX9_rows 21 = .ok (.invokevirtual 284, 3) := by decide +kernel
theorem dX9_rows_24 : decode cX9_rows 24 = .ok (.istore 4, 2) := by decide +kernel
theorem dX9_rows_26 : decode cX9_rows 26 = .ok (.iload 4, 2) := by decide +kernel
theorem dX9_rows_28 : decode cX9_rows 28 = .ok (.ifCond .eq 6, 3) := by decide +kernel
theorem dX9_rows_31 : decode cX9_rows 31 = .ok (.iload 4, 2) := by decide +kernel
theorem dX9_rows_33 : decode cX9_rows 33 = .ok (.ireturn, 1) := by decide +kernel
theorem dX9_rows_34 : decode cX9_rows 34 = .ok (.aload_n 0, 1) := by decide +kernel
theorem dX9_rows_35 : decode cX9_rows 35 = .ok (.getfield 12, 3) := by decide +kernel
theorem dX9_rows_38 : decode cX9_rows 38 = .ok (.aload_n 0, 1) := by decide +kernel
theorem dX9_rows_39 : decode cX9_rows 39 = .ok (.getfield 71, 3) := by decide +kernel
theorem dX9_rows_42 : decode cX9_rows 42 = .ok (.iload_n 1, 1) := by decide +kernel
theorem dX9_rows_43 : decode cX9_rows 43 = .ok (.aaload, 1) := by decide +kernel
theorem dX9_rows_44 : decode cX9_rows 44 = .ok (.getfield 290, 3) := by decide +kernel
theorem dX9_rows_47 : decode cX9_rows 47 = .ok (.iload_n 3, 1) := by decide +kernel
theorem dX9_rows_48 : decode cX9_rows 48 = .ok (.invokevirtual 293, 3) := by decide +kernel
theorem dX9_rows_51 : decode cX9_rows 51 = .ok (.ifCond .ne 6, 3) := by decide +kernel
theorem dX9_rows_54 : decode cX9_rows 54 = .ok (.bipush (-2), 2) := by decide +kernel
theorem dX9_rows_56 : decode cX9_rows 56 = .ok (.ireturn, 1) := by decide +kernel
theorem dX9_rows_57 : decode cX9_rows 57 = .ok (.aload_n 0, 1) := by decide +kernel
theorem dX9_rows_58 : decode cX9_rows 58 = .ok (.getfield 12, 3) := by decide +kernel
theorem dX9_rows_61 : decode cX9_rows 61 = .ok (.aload_n 0, 1) := by decide +kernel
theorem dX9_rows_62 : decode cX9_rows 62 = .ok (.getfield 71, 3) := by decide +kernel
theorem dX9_rows_65 : decode cX9_rows 65 = .ok (.iload_n 1, 1) := by decide +kernel
theorem dX9_rows_66 : decode cX9_rows 66 = .ok (.aaload, 1) := by decide +kernel
theorem dX9_rows_67 : decode cX9_rows 67 = .ok (.getfield 290, 3) := by decide +kernel
theorem dX9_rows_70 : decode cX9_rows 70 = .ok (.iload_n 3, 1) := by decide +kernel
theorem dX9_rows_71 : decode cX9_rows 71 = .ok (.invokevirtual 296, 3) := by decide +kernel
theorem dX9_rows_74 : decode cX9_rows 74 = .ok (.aload_n 0, 1) := by decide +kernel
theorem dX9_rows_75 : decode cX9_rows 75 = .ok (.getfield 21, 3) := by decide +kernel
theorem dX9_rows_78 : decode cX9_rows 78 = .ok (.invokevirtual 80, 3) := by decide +kernel
theorem dX9_rows_81 : decode cX9_rows 81 = .ok (.aload_n 0, 1) := by decide +kernel
theorem dX9_rows_82 : decode cX9_rows 82 = .ok (.getfield 12, 3) := by decide +kernel
theorem dX9_rows_85 : decode cX9_rows 85 = .ok (.getfield 147, 3) := by decide +kernel
theorem dX9_rows_88 : decode cX9_rows 88 = .ok (.ireturn, 1) := by decide +kernel
set_option maxHeartbeats 4000000 in
set_option maxRecDepth 100000 in
theorem f_X9_rows (l : Launch) (dC : Nat → ClassId) (dI : Nat → Nat → Nat) (h : Nat → Nat) (cs : Nat → ClassId) (sz : Nat) (I : Nat → Int32) (L : Nat → Int64) (A : Nat → Nat → Int32) (Q : Nat → Nat → Int64) (G : Nat → Nat → Nat → Int32) (J : Nat → Nat → Nat → Int64) (x y z : Int32) : Met l yX9_rows wsX9_rows ({ frames := 2, cells := 0, slots := 0, locals := 44 }) (va_Pc [.ref (h 100), .int x, .int y, .int z] (xPre (dC, dI) (wAll h cs fI fL fA fQ fG fJ) (tysA cs) sz)) (va_Qi (fun (r : Int32) (u : CS) => (r = an_item x y) ∧ u = (fI, fL, fA, fQ, fG, fJ)) (xB (dC, dI) (tysA cs) (va_A (wAll h cs fI fL fA fQ fG fJ) sz) (fun u : CS => wAll h cs u.1 u.2.1 u.2.2.1 u.2.2.2.1 u.2.2.2.2.1 u.2.2.2.2.2)) (va_A (wAll h cs fI fL fA fQ fG fJ) sz)) 0 0 (va_A (wAll h cs fI fL fA fQ fG fJ) sz) := by
  refine Met.ofW (cc := cX9_rows) (maxL := 5) (ret := (some .int)) (by decide) rfl ?_
  intro p e s m args below meth c s₁ B hml hv
  obtain ⟨rfl, hsz, hP, hK, hD0, hN⟩ := hv
  have hx := B.exec
  have hb := B.bytes
  have hr := B.returns
  have hts := atoms_spec (ws := wsX9_rows) B.pre
  have hown : s.vm.findClass RX9 = some m.cls := findClass_of_methodNamed B.named
  have hlocks := B.notSynchronized
  subst hsz
  have hD := hD0.self (sz := s.heap.size)
  generalize hAe : va_A (wAll h cs fI fL fA fQ fG fJ) s.heap.size = A0 at hD ⊢
  have hA : ∀ q : Nat, s.heap.size ≤ q → A0 q := fun q h => by rw [← hAe]; exact Or.inr h
  have hl := lv_entry ([.ref (h 100), .int x, .int y, .int z]) (n := 5) (Nat.le_of_ble_eq_true rfl)
  rw [lg_entry_eq]
  generalize (lg_sl ([.ref (h 100), .int x, .int y, .int z]) ++ List.replicate (5 - (lg_sl ([.ref (h 100), .int x, .int y, .int z])).length) Slot.unset).toArray = ls at hl ⊢
  have hl : lv_has ls 5 [(0, .ref (h 100)), (1, .int x), (2, .int y), (3, .int z)] := hl
  generalize hH : s.heap = H at hP ⊢
  have hS : va_S A0 s.heap H [] := by rw [← hH]; exact va_S.rf
  have hinX9 : ∀ w ∈ wsX90, w ∈ wsX9_rows := by decide +kernel
  have hinX3 : ∀ w ∈ wsX30, w ∈ wsX9_rows := by decide +kernel
  have hinX5 : ∀ w ∈ wsX50, w ∈ wsX9_rows := by decide +kernel
  refine lv_aload_n hx hb dX9_rows_0 rfl (lv_at hl 0 rfl) ?_
  refine lv_iload_n hx hb dX9_rows_1 rfl (lv_at hl 1 rfl) ?_
  refine lv_iload_n hx hb dX9_rows_2 rfl (lv_at hl 2 rfl) ?_
  refine lv_iload_n hx hb dX9_rows_3 rfl (lv_at hl 3 rfl) ?_
  refine lv_aload_n hx hb dX9_rows_4 rfl (lv_at hl 0 rfl) ?_
  refine va_get (D := (dC, dI)) (ci := 9) (v := .ref (h 101)) (C := RX9) (T := TX9) (N := 9) hx hb hts hinX9 hown hK hP 0 rfl rfl 0 (by decide) (hts (.fieldLink RX9 12 "MixedWords" "mix" "LMixedWords$Mix;") (by decide +kernel)) (fun _ h9 => h9) rfl dX9_rows_5 ?_
  refine va_get (D := (dC, dI)) (ci := 3) (v := .int (fI 120)) (C := RX3) (T := TX3) (N := 6) hx hb hts hinX3 hown hK hP 1 rfl rfl 0 (by decide) (hts (.fieldLink RX9 147 "MixedWords$Mix" "height" "I") (by decide +kernel)) (fun _ h9 => h9) rfl dX9_rows_8 ?_
  refine xt_i (y := nI 2) (by decide +kernel) ?_
  refine lv_aload_n hx hb dX9_rows_11 rfl (lv_at hl 0 rfl) ?_
  refine va_get (D := (dC, dI)) (ci := 9) (v := .ref (h 101)) (C := RX9) (T := TX9) (N := 9) hx hb hts hinX9 hown hK hP 0 rfl rfl 0 (by decide) (hts (.fieldLink RX9 12 "MixedWords" "mix" "LMixedWords$Mix;") (by decide +kernel)) (fun _ h9 => h9) rfl dX9_rows_12 ?_
  refine va_get (D := (dC, dI)) (ci := 3) (v := .int (fI 121)) (C := RX3) (T := TX3) (N := 6) hx hb hts hinX3 hown hK hP 1 rfl rfl 1 (by decide) (hts (.fieldLink RX9 106 "MixedWords$Mix" "width" "I") (by decide +kernel)) (fun _ h9 => h9) rfl dX9_rows_15 ?_
  refine xt_i (y := nI 2) (by decide +kernel) ?_
  refine lv_iconst (v := nI 1) hx hb dX9_rows_18 (by decide) ?_
  refine lv_iadd hx hb dX9_rows_19 ?_
  refine xt_i (y := nI 3) (by decide +kernel) ?_
  refine lv_imul hx hb dX9_rows_20 ?_
  refine xt_i (y := nI 6) (by decide +kernel) ?_
  refine xj_i (wc := (wAll h cs fI fL fA fQ fG fJ)) (wr := ([] : va_W)) hP hD hS hA [0, 1, 2, 3, 4, 5, 6, 7, 8, 9, 10, 11, 12, 13, 14, 15, 16, 17, 18, 19, 20, 21, 22, 23, 24, 25, 26, 27, 28, 29, 30, 31, 32, 33, 34, 35, 36, 37, 38, 39, 40, 41, 42, 43, 44, 45, 46, 47, 48, 49, 50, 51, 52, 53, 54, 55, 56, 57, 58, 59, 60, 61] [] rfl rfl (by decide) (by decide) (va_runV (As := [.int x, .int y, .int z, .int (nI 6)]) (rest := []) ⟨hx, hb, hml, hown, hts⟩ (f_X9_refusal l dC dI h cs H.size fI fL fA fQ fG fJ x y z (nI 6)) (cwV 4 hts gX9_rows_X9_refusal rfl rfl rfl (by decide +kernel) ⟨Nat.le_of_ble_eq_true rfl, Nat.le_of_ble_eq_true rfl⟩) (xpV (wc := (wAll h cs fI fL fA fQ fG fJ)) hP hD hK hN [0, 1, 2, 3, 4, 5, 6, 7, 8, 9, 10, 11, 12, 13, 14, 15, 16, 17, 18, 19, 20, 21, 22, 23, 24, 25, 26, 27, 28, 29, 30, 31, 32, 33, 34, 35, 36, 37, 38, 39, 40, 41, 42, 43, 44, 45, 46, 47, 48, 49, 50, 51, 52, 53, 54, 55, 56, 57, 58, 59, 60, 61] rfl (by decide) 0 (ci := 9) rfl rfl _) rfl rfl hl.1 rfl (lv_room (Nat.le_of_ble_eq_true rfl)) dX9_rows_21 ⟨Nat.zero_le _, Nat.zero_le _⟩) (fun r_2 u_1 H locs hw hP hD hS => ?_)
  obtain ⟨hf_3, rfl⟩ := hw
  have hP : va_P (dC, dI) vwCl (wAll h cs fI fL fA fQ fG fJ) H := hP
  have hD : va_D A0 (wAll h cs fI fL fA fQ fG fJ) := hD
  rcases an_item_or x y with e9 | e9
  · skip
    have e8 := hf_3.trans e9
    obtain rfl := e8
    refine lv_istore (lv' := [(4, .int (-11)), (0, .ref (h 100)), (1, .int x), (2, .int y), (3, .int z)]) hx hb dX9_rows_24 hl (by decide) rfl (fun ls hl => ?_)
    refine lv_iload hx hb dX9_rows_26 (lv_at hl 0 rfl) ?_
    refine lv_if_eq (tgt := 34) hx hb dX9_rows_28 (by decide) (fun c9 => False.elim (by revert c9; decide +kernel)) (fun _ => ?_)
    refine lv_iload hx hb dX9_rows_31 (lv_at hl 0 rfl) ?_
    exact xr_i (v := (-11)) hx hb hr hlocks hK hS dX9_rows_33 (fI, fL, fA, fQ, fG, fJ) ⟨(e9.symm), rfl⟩ hP hD
  · skip
    have e8 := hf_3.trans e9
    obtain rfl := e8
    refine lv_istore (lv' := [(4, .int (-1)), (0, .ref (h 100)), (1, .int x), (2, .int y), (3, .int z)]) hx hb dX9_rows_24 hl (by decide) rfl (fun ls hl => ?_)
    refine lv_iload hx hb dX9_rows_26 (lv_at hl 0 rfl) ?_
    refine lv_if_eq (tgt := 34) hx hb dX9_rows_28 (by decide) (fun c9 => False.elim (by revert c9; decide +kernel)) (fun _ => ?_)
    refine lv_iload hx hb dX9_rows_31 (lv_at hl 0 rfl) ?_
    exact xr_i (v := (-1)) hx hb hr hlocks hK hS dX9_rows_33 (fI, fL, fA, fQ, fG, fJ) ⟨(e9.symm), rfl⟩ hP hD
