set_option maxRecDepth 20000 in
theorem ggX9_led_X1_lead : GoodIn wsX9_led wsX1_lead := goodIn_r _ [7, 8, 9, 10, 11, 12, 13, 14, 6, 15, 16, 17, 18, 19, 20, 21, 22, 23, 24, 25, 26, 27, 28, 29, 30, 31, 32, 33, 34, 35, 36, 37, 38, 39, 40, 41, 42, 43, 53, 54, 55, 56, 57, 58, 59, 60, 61, 62, 63, 64] rfl (by decide +kernel)
set_option maxRecDepth 20000 in
theorem gX9_led_X1_lead : GoodIn wsX9_led (wsV RX9 233 RX1 yX1_lead wsX1_lead) := goodIn_app (goodIn_of _ (by decide +kernel)) ggX9_led_X1_lead
theorem bdX9_led_0 : (decode cX9_led 0 = .ok (.aload_n 0, 1)) ∧ (decode cX9_led 1 = .ok (.getfield 65, 3)) ∧ (decode cX9_led 4 = .ok (.invokevirtual 233, 3)) ∧ (decode cX9_led 7 = .ok (.aload_n 0, 1)) ∧ (decode cX9_led 8 = .ok (.getfield 65, 3)) ∧ (decode cX9_led 11 = .ok (.getfield 236, 3)) ∧ (decode cX9_led 14 = .ok (.ireturn, 1)) := by decide +kernel
theorem dX9_led_0 : decode cX9_led 0 = .ok (.aload_n 0, 1) := bdX9_led_0.1
theorem dX9_led_1 : decode cX9_led 1 = .ok (.getfield 65, 3) := bdX9_led_0.2.1
theorem dX9_led_4 : decode cX9_led 4 = .ok (.invokevirtual 233, 3) := bdX9_led_0.2.2.1
theorem dX9_led_7 : decode cX9_led 7 = .ok (.aload_n 0, 1) := bdX9_led_0.2.2.2.1
theorem dX9_led_8 : decode cX9_led 8 = .ok (.getfield 65, 3) := bdX9_led_0.2.2.2.2.1
theorem dX9_led_11 : decode cX9_led 11 = .ok (.getfield 236, 3) := bdX9_led_0.2.2.2.2.2.1
theorem dX9_led_14 : decode cX9_led 14 = .ok (.ireturn, 1) := bdX9_led_0.2.2.2.2.2.2
set_option maxHeartbeats 4000000 in
set_option maxRecDepth 100000 in
theorem k_X9_led (l : Launch) (dC : Nat → ClassId) (dI : Nat → Nat → Nat) (h : Nat → Nat) (cs : Nat → ClassId) (sz : Nat) (I : Nat → Int32) (L : Nat → Int64) (A : Nat → Nat → Int32) (Q : Nat → Nat → Int64) (G : Nat → Nat → Nat → Int32) (J : Nat → Nat → Nat → Int64) (R M : Nat) (hR : I 120 = nI R) (hR1 : 1 ≤ R) (hR5 : R ≤ 5) (hM : I 121 = nI M) (hM1 : 1 ≤ M) (hM4 : M ≤ 4) : Met l yX9_led wsX9_led ({ frames := 4, cells := 0, slots := 0, locals := 128 }) (va_Pc [.ref (h 100)] (xPre (dC, dI) (wFE h cs I L A Q G J) (tysA cs) sz)) (va_Qi (fun (r : Int32) (u : CS) => ∃ i212 : Int32, ∃ i213 : Int32, ∃ g2 : Nat → Nat → Int32, ∃ g3 : Nat → Nat → Int32, (((I 213 = I 123 ∧ i212 = I 212 ∧ i213 = I 213 ∧ g2 = G 2 ∧ g3 = G 3) ∨ (¬ I 213 = I 123 ∧ i213 = I 123 ∧ ∃ n : Nat, i212 = nI n ∧ n ≤ 2000 ∧ Ln R M (G 0) n g2 g3 ∧ (n = 2000 ∨ NoSt R M g2))) ∧ r = i212) ∧ u = ((va_up (va_up I 212 i212) 213 i213), L, A, Q, (va_up (va_up G 2 g2) 3 g3), J)) (xB (dC, dI) (tysA cs) (va_A (wFE h cs I L A Q G J) sz) (fun u : CS => wFE h cs u.1 u.2.1 u.2.2.1 u.2.2.2.1 u.2.2.2.2.1 u.2.2.2.2.2)) (va_A (wFE h cs I L A Q G J) sz)) 0 0 (va_A (wFE h cs I L A Q G J) sz) := by
  refine Met.ofW (cc := cX9_led) (maxL := 1) (ret := (some .int)) (by decide) rfl ?_
  intro p e s m args below meth c s₁ B hml hv
  obtain ⟨rfl, hsz, hP, hK, hD0, hN⟩ := hv
  have hx := B.exec
  have hb := B.bytes
  have hr := B.returns
  have hts := atoms_spec (ws := wsX9_led) B.pre
  have hown : s.vm.findClass RX9 = some m.cls := findClass_of_methodNamed B.named
  have hlocks := B.notSynchronized
  subst hsz
  have hD := hD0.self (sz := s.heap.size)
  generalize hAe : va_A (wFE h cs I L A Q G J) s.heap.size = A0 at hD ⊢
  have hA : ∀ q : Nat, s.heap.size ≤ q → A0 q := fun q h => by rw [← hAe]; exact Or.inr h
  have hl := lv_entry ([.ref (h 100)]) (n := 1) (Nat.le_of_ble_eq_true rfl)
  rw [lg_entry_eq]
  generalize (lg_sl ([.ref (h 100)]) ++ List.replicate (1 - (lg_sl ([.ref (h 100)])).length) Slot.unset).toArray = ls at hl ⊢
  have hl : lv_has ls 1 [(0, .ref (h 100))] := hl
  generalize hH : s.heap = H at hP ⊢
  have hS : va_S A0 s.heap H [] := by rw [← hH]; exact va_S.rf
  have hinX9 : ∀ w ∈ wsX90, w ∈ wsX9_led := by decide +kernel
  have hinX1 : ∀ w ∈ wsX10, w ∈ wsX9_led := by decide +kernel
  refine lv_aload_n hx hb dX9_led_0 rfl (lv_at hl 0 rfl) ?_
  refine va_get (D := (dC, dI)) (ci := 9) (v := .ref (h 108)) (C := RX9) (T := TX9) (N := 9) hx hb hts hinX9 hown hK hP 0 rfl rfl 7 (by decide) (hts (.fieldLink RX9 65 "MixedWords" "leader" "LMixedWords$Leader;") (by decide +kernel)) (fun _ h9 => h9) rfl dX9_led_1 ?_
  refine xj_v (wc := (wLead h cs I L A Q G J)) (wr := [(h 100, .inr (9, [.ref (h 101), .ref (h 102), .ref (h 103), .ref (h 104), .ref (h 105), .ref (h 106), .ref (h 107), .ref (h 108), .ref (h 109)]))]) hP hD hS hA [1, 2, 3, 4, 5, 6, 7, 8, 9, 10, 11, 12, 13, 14, 15, 16, 17, 18, 19, 20, 21] [0] rfl rfl (by decide +kernel) (by decide +kernel) (va_runV (As := []) (rest := []) ⟨hx, hb, hml, hown, hts⟩ (k_X1_lead l dC dI h cs H.size I L A Q G J R M hR (by first | assumption | omega | exact hR1) (by first | assumption | omega | exact hR5) hM (by first | assumption | omega | exact hM1) (by first | assumption | omega | exact hM4)) (cwV 0 hts gX9_led_X1_lead rfl rfl rfl (by decide +kernel) ⟨Nat.le_of_ble_eq_true rfl, Nat.le_of_ble_eq_true rfl⟩) (xpV (wc := (wLead h cs I L A Q G J)) hP hD hK hN [1, 2, 3, 4, 5, 6, 7, 8, 9, 10, 11, 12, 13, 14, 15, 16, 17, 18, 19, 20, 21] rfl (by decide) 1 (ci := 1) rfl rfl _) rfl rfl hl.1 rfl (lv_room (Nat.le_of_ble_eq_true rfl)) dX9_led_4 ⟨Nat.zero_le _, Nat.zero_le _⟩) (fun u_1 H locs hw hP hD hS => ?_)
  obtain ⟨i212_3, i213_4, g2_5, g3_6, hf_7, rfl⟩ := hw
  have hP : va_P (dC, dI) vwCl (wFE h cs (va_up (va_up I 212 i212_3) 213 i213_4) L A Q (va_up (va_up G 2 g2_5) 3 g3_6) J) H := hP
  have hD : va_D A0 (wFE h cs (va_up (va_up I 212 i212_3) 213 i213_4) L A Q (va_up (va_up G 2 g2_5) 3 g3_6) J) := hD
  have hlc := hf_7
  refine lv_aload_n hx hb dX9_led_7 rfl (lv_at hl 0 rfl) ?_
  refine va_get (D := (dC, dI)) (ci := 9) (v := .ref (h 108)) (C := RX9) (T := TX9) (N := 9) hx hb hts hinX9 hown hK hP 0 rfl rfl 7 (by decide) (hts (.fieldLink RX9 65 "MixedWords" "leader" "LMixedWords$Leader;") (by decide +kernel)) (fun _ h9 => h9) rfl dX9_led_8 ?_
  refine va_get (D := (dC, dI)) (ci := 1) (v := .int i212_3) (C := RX1) (T := TX1) (N := 6) hx hb hts hinX1 hown hK hP 1 rfl rfl 4 (by decide) (hts (.fieldLink RX9 236 "MixedWords$Leader" "times" "I") (by decide +kernel)) (fun _ h9 => h9) rfl dX9_led_11 ?_
  exact xr_i (v := i212_3) hx hb hr hlocks hK hS dX9_led_14 ((va_up (va_up I 212 i212_3) 213 i213_4), L, A, Q, (va_up (va_up G 2 g2_5) 3 g3_6), J) ⟨i212_3, i213_4, g2_5, g3_6, ⟨hlc, rfl⟩, rfl⟩ hP hD
set_option maxRecDepth 20000 in
theorem ggX9_ledAt_X3_hasColumn : GoodIn wsX9_ledAt wsX3_hasColumn := goodIn_r _ [10, 11, 73, 74, 75, 76, 77, 78] rfl (by decide +kernel)
set_option maxRecDepth 20000 in
theorem gX9_ledAt_X3_hasColumn : GoodIn wsX9_ledAt (wsV RX9 95 RX3 yX3_hasColumn wsX3_hasColumn) := goodIn_app (goodIn_of _ (by decide +kernel)) ggX9_ledAt_X3_hasColumn
set_option maxRecDepth 20000 in
theorem ggX9_ledAt_X3_hasRow : GoodIn wsX9_ledAt wsX3_hasRow := goodIn_r _ [15, 16, 73, 74, 75, 76, 77, 78] rfl (by decide +kernel)
set_option maxRecDepth 20000 in
theorem gX9_ledAt_X3_hasRow : GoodIn wsX9_ledAt (wsV RX9 91 RX3 yX3_hasRow wsX3_hasRow) := goodIn_app (goodIn_of _ (by decide +kernel)) ggX9_ledAt_X3_hasRow
set_option maxRecDepth 20000 in
theorem ggX9_ledAt_X1_lead : GoodIn wsX9_ledAt wsX1_lead := goodIn_r _ [21, 22, 23, 24, 25, 26, 27, 28, 20, 29, 30, 31, 32, 33, 34, 35, 36, 37, 38, 39, 40, 41, 42, 43, 44, 45, 46, 47, 48, 49, 50, 51, 52, 53, 54, 55, 56, 57, 67, 68, 69, 70, 71, 72, 73, 74, 75, 76, 77, 78] rfl (by decide +kernel)
set_option maxRecDepth 20000 in
theorem gX9_ledAt_X1_lead : GoodIn wsX9_ledAt (wsV RX9 233 RX1 yX1_lead wsX1_lead) := goodIn_app (goodIn_of _ (by decide +kernel)) ggX9_ledAt_X1_lead
theorem bdX9_ledAt_0 : (decode cX9_ledAt 0 = .ok (.aload_n 0, 1)) ∧ (decode cX9_ledAt 1 = .ok (.getfield 12, 3)) ∧ (decode cX9_ledAt 4 = .ok (.iload_n 3, 1)) ∧ (decode cX9_ledAt 5 = .ok (.invokevirtual 95, 3)) ∧ (decode cX9_ledAt 8 = .ok (.ifCond .eq 38, 3)) ∧ (decode cX9_ledAt 11 = .ok (.iload_n 1, 1)) ∧ (decode cX9_ledAt 12 = .ok (.ifCond .ne 14, 3)) ∧ (decode cX9_ledAt 15 = .ok (.aload_n 0, 1)) ∧ (decode cX9_ledAt 16 = .ok (.getfield 12, 3)) ∧ (decode cX9_ledAt 19 = .ok (.iload_n 2, 1)) ∧ (decode cX9_ledAt 20 = .ok (.invokevirtual 91, 3)) ∧ (decode cX9_ledAt 23 = .ok (.ifCond .ne 19, 3)) ∧ (decode cX9_ledAt 26 = .ok (.iload_n 1, 1)) ∧ (decode cX9_ledAt 27 = .ok (.iconst 1, 1)) ∧ (decode cX9_ledAt 28 = .ok (.if_icmp .ne 18, 3)) ∧ (decode cX9_ledAt 31 = .ok (.aload_n 0, 1)) := by decide +kernel
theorem dX9_ledAt_0 : decode cX9_ledAt 0 = .ok (.aload_n 0, 1) := bdX9_ledAt_0.1
theorem dX9_ledAt_1 : decode cX9_ledAt 1 = .ok (.getfield 12, 3) := bdX9_ledAt_0.2.1
theorem dX9_ledAt_4 : decode cX9_ledAt 4 = .ok (.iload_n 3, 1) := bdX9_ledAt_0.2.2.1
theorem dX9_ledAt_5 : decode cX9_ledAt 5 = .ok (.invokevirtual 95, 3) := bdX9_ledAt_0.2.2.2.1
theorem dX9_ledAt_8 : decode cX9_ledAt 8 = .ok (.ifCond .eq 38, 3) := bdX9_ledAt_0.2.2.2.2.1
theorem dX9_ledAt_11 : decode cX9_ledAt 11 = .ok (.iload_n 1, 1) := bdX9_ledAt_0.2.2.2.2.2.1
theorem dX9_ledAt_12 : decode cX9_ledAt 12 = .ok (.ifCond .ne 14, 3) := bdX9_ledAt_0.2.2.2.2.2.2.1
theorem dX9_ledAt_15 : decode cX9_ledAt 15 = .ok (.aload_n 0, 1) := bdX9_ledAt_0.2.2.2.2.2.2.2.1
theorem dX9_ledAt_16 : decode cX9_ledAt 16 = .ok (.getfield 12, 3) := bdX9_ledAt_0.2.2.2.2.2.2.2.2.1
theorem dX9_ledAt_19 : decode cX9_ledAt 19 = .ok (.iload_n 2, 1) := bdX9_ledAt_0.2.2.2.2.2.2.2.2.2.1
theorem dX9_ledAt_20 : decode cX9_ledAt 20 = .ok (.invokevirtual 91, 3) := bdX9_ledAt_0.2.2.2.2.2.2.2.2.2.2.1
theorem dX9_ledAt_23 : decode cX9_ledAt 23 = .ok (.ifCond .ne 19, 3) := bdX9_ledAt_0.2.2.2.2.2.2.2.2.2.2.2.1
theorem dX9_ledAt_26 : decode cX9_ledAt 26 = .ok (.iload_n 1, 1) := bdX9_ledAt_0.2.2.2.2.2.2.2.2.2.2.2.2.1
theorem dX9_ledAt_27 : decode cX9_ledAt 27 = .ok (.iconst 1, 1) := bdX9_ledAt_0.2.2.2.2.2.2.2.2.2.2.2.2.2.1
theorem dX9_ledAt_28 : decode cX9_ledAt 28 = .ok (.if_icmp .ne 18, 3) := bdX9_ledAt_0.2.2.2.2.2.2.2.2.2.2.2.2.2.2.1
theorem dX9_ledAt_31 : decode cX9_ledAt 31 = .ok (.aload_n 0, 1) := bdX9_ledAt_0.2.2.2.2.2.2.2.2.2.2.2.2.2.2.2
theorem bdX9_ledAt_32 : (decode cX9_ledAt 32 = .ok (.getfield 12, 3)) ∧ (decode cX9_ledAt 35 = .ok (.iload_n 2, 1)) ∧ (decode cX9_ledAt 36 = .ok (.invokevirtual 95, 3)) ∧ (decode cX9_ledAt 39 = .ok (.ifCond .eq 7, 3)) ∧ (decode cX9_ledAt 42 = .ok (.iconst 1, 1)) ∧ (decode cX9_ledAt 43 = .ok (.goto 4, 3)) ∧ (decode cX9_ledAt 46 = .ok (.iconst 0, 1)) ∧ (decode cX9_ledAt 47 = .ok (.istore 4, 2)) ∧ (decode cX9_ledAt 49 = .ok (.iload 4, 2)) ∧ (decode cX9_ledAt 51 = .ok (.ifCond .ne 6, 3)) ∧ (decode cX9_ledAt 54 = .ok (.ldc 239, 2)) ∧ (decode cX9_ledAt 56 = .ok (.ireturn, 1)) ∧ (decode cX9_ledAt 57 = .ok (.aload_n 0, 1)) ∧ (decode cX9_ledAt 58 = .ok (.getfield 65, 3)) ∧ (decode cX9_ledAt 61 = .ok (.invokevirtual 233, 3)) ∧ (decode cX9_ledAt 64 = .ok (.iload_n 1, 1)) := by decide +kernel
theorem dX9_ledAt_32 : decode cX9_ledAt 32 = .ok (.getfield 12, 3) := bdX9_ledAt_32.1
theorem dX9_ledAt_35 : decode cX9_ledAt 35 = .ok (.iload_n 2, 1) := bdX9_ledAt_32.2.1
theorem dX9_ledAt_36 : decode cX9_ledAt 36 = .ok (.invokevirtual 95, 3) := bdX9_ledAt_32.2.2.1
theorem dX9_ledAt_39 : decode cX9_ledAt 39 = .ok (.ifCond .eq 7, 3) := bdX9_ledAt_32.2.2.2.1
theorem dX9_ledAt_42 : decode cX9_ledAt 42 = .ok (.iconst 1, 1) := bdX9_ledAt_32.2.2.2.2.1
theorem dX9_ledAt_43 : decode cX9_ledAt 43 = .ok (.goto 4, 3) := bdX9_ledAt_32.2.2.2.2.2.1
theorem dX9_ledAt_46 : decode cX9_ledAt 46 = .ok (.iconst 0, 1) := bdX9_ledAt_32.2.2.2.2.2.2.1
theorem dX9_ledAt_47 : decode cX9_ledAt 47 = .ok (.istore 4, 2) := bdX9_ledAt_32.2.2.2.2.2.2.2.1
theorem dX9_ledAt_49 : decode cX9_ledAt 49 = .ok (.iload 4, 2) := bdX9_ledAt_32.2.2.2.2.2.2.2.2.1
theorem dX9_ledAt_51 : decode cX9_ledAt 51 = .ok (.ifCond .ne 6, 3) := bdX9_ledAt_32.2.2.2.2.2.2.2.2.2.1
theorem dX9_ledAt_54 : decode cX9_ledAt 54 = .ok (.ldc 239, 2) := bdX9_ledAt_32.2.2.2.2.2.2.2.2.2.2.1
theorem dX9_ledAt_56 : decode cX9_ledAt 56 = .ok (.ireturn, 1) := bdX9_ledAt_32.2.2.2.2.2.2.2.2.2.2.2.1
theorem dX9_ledAt_57 : decode cX9_ledAt 57 = .ok (.aload_n 0, 1) := bdX9_ledAt_32.2.2.2.2.2.2.2.2.2.2.2.2.1
theorem dX9_ledAt_58 : decode cX9_ledAt 58 = .ok (.getfield 65, 3) := bdX9_ledAt_32.2.2.2.2.2.2.2.2.2.2.2.2.2.1
theorem dX9_ledAt_61 : decode cX9_ledAt 61 = .ok (.invokevirtual 233, 3) := bdX9_ledAt_32.2.2.2.2.2.2.2.2.2.2.2.2.2.2.1
theorem dX9_ledAt_64 : decode cX9_ledAt 64 = .ok (.iload_n 1, 1) := bdX9_ledAt_32.2.2.2.2.2.2.2.2.2.2.2.2.2.2.2
theorem bdX9_ledAt_65 : (decode cX9_ledAt 65 = .ok (.ifCond .ne 17, 3)) ∧ (decode cX9_ledAt 68 = .ok (.aload_n 0, 1)) ∧ (decode cX9_ledAt 69 = .ok (.getfield 65, 3)) ∧ (decode cX9_ledAt 72 = .ok (.getfield 240, 3)) ∧ (decode cX9_ledAt 75 = .ok (.iload_n 2, 1)) ∧ (decode cX9_ledAt 76 = .ok (.aaload, 1)) ∧ (decode cX9_ledAt 77 = .ok (.iload_n 3, 1)) ∧ (decode cX9_ledAt 78 = .ok (.iaload, 1)) ∧ (decode cX9_ledAt 79 = .ok (.goto 14, 3)) ∧ (decode cX9_ledAt 82 = .ok (.aload_n 0, 1)) ∧ (decode cX9_ledAt 83 = .ok (.getfield 65, 3)) ∧ (decode cX9_ledAt 86 = .ok (.getfield 243, 3)) ∧ (decode cX9_ledAt 89 = .ok (.iload_n 2, 1)) ∧ (decode cX9_ledAt 90 = .ok (.aaload, 1)) ∧ (decode cX9_ledAt 91 = .ok (.iload_n 3, 1)) ∧ (decode cX9_ledAt 92 = .ok (.iaload, 1)) := by decide +kernel
theorem dX9_ledAt_65 : decode cX9_ledAt 65 = .ok (.ifCond .ne 17, 3) := bdX9_ledAt_65.1
theorem dX9_ledAt_68 : decode cX9_ledAt 68 = .ok (.aload_n 0, 1) := bdX9_ledAt_65.2.1
theorem dX9_ledAt_69 : decode cX9_ledAt 69 = .ok (.getfield 65, 3) := bdX9_ledAt_65.2.2.1
theorem dX9_ledAt_72 : decode cX9_ledAt 72 = .ok (.getfield 240, 3) := bdX9_ledAt_65.2.2.2.1
theorem dX9_ledAt_75 : decode cX9_ledAt 75 = .ok (.iload_n 2, 1) := bdX9_ledAt_65.2.2.2.2.1
theorem dX9_ledAt_76 : decode cX9_ledAt 76 = .ok (.aaload, 1) := bdX9_ledAt_65.2.2.2.2.2.1
theorem dX9_ledAt_77 : decode cX9_ledAt 77 = .ok (.iload_n 3, 1) := bdX9_ledAt_65.2.2.2.2.2.2.1
theorem dX9_ledAt_78 : decode cX9_ledAt 78 = .ok (.iaload, 1) := bdX9_ledAt_65.2.2.2.2.2.2.2.1
theorem dX9_ledAt_79 : decode cX9_ledAt 79 = .ok (.goto 14, 3) := bdX9_ledAt_65.2.2.2.2.2.2.2.2.1
theorem dX9_ledAt_82 : decode cX9_ledAt 82 = .ok (.aload_n 0, 1) := bdX9_ledAt_65.2.2.2.2.2.2.2.2.2.1
theorem dX9_ledAt_83 : decode cX9_ledAt 83 = .ok (.getfield 65, 3) := bdX9_ledAt_65.2.2.2.2.2.2.2.2.2.2.1
theorem dX9_ledAt_86 : decode cX9_ledAt 86 = .ok (.getfield 243, 3) := bdX9_ledAt_65.2.2.2.2.2.2.2.2.2.2.2.1
theorem dX9_ledAt_89 : decode cX9_ledAt 89 = .ok (.iload_n 2, 1) := bdX9_ledAt_65.2.2.2.2.2.2.2.2.2.2.2.2.1
theorem dX9_ledAt_90 : decode cX9_ledAt 90 = .ok (.aaload, 1) := bdX9_ledAt_65.2.2.2.2.2.2.2.2.2.2.2.2.2.1
theorem dX9_ledAt_91 : decode cX9_ledAt 91 = .ok (.iload_n 3, 1) := bdX9_ledAt_65.2.2.2.2.2.2.2.2.2.2.2.2.2.2.1
theorem dX9_ledAt_92 : decode cX9_ledAt 92 = .ok (.iaload, 1) := bdX9_ledAt_65.2.2.2.2.2.2.2.2.2.2.2.2.2.2.2
theorem dX9_ledAt_93 : decode cX9_ledAt 93 = .ok (.ireturn, 1) := by decide +kernel
set_option maxHeartbeats 4000000 in
set_option maxRecDepth 100000 in
theorem k_X9_ledAt (l : Launch) (dC : Nat → ClassId) (dI : Nat → Nat → Nat) (h : Nat → Nat) (cs : Nat → ClassId) (sz : Nat) (I : Nat → Int32) (L : Nat → Int64) (A : Nat → Nat → Int32) (Q : Nat → Nat → Int64) (G : Nat → Nat → Nat → Int32) (J : Nat → Nat → Nat → Int64) (x y z : Int32) (R M : Nat) (hR : I 120 = nI R) (hR1 : 1 ≤ R) (hR5 : R ≤ 5) (hM : I 121 = nI M) (hM1 : 1 ≤ M) (hM4 : M ≤ 4) : Met l yX9_ledAt wsX9_ledAt ({ frames := 4, cells := 0, slots := 0, locals := 128 }) (va_Pc [.ref (h 100), .int x, .int y, .int z] (xPre (dC, dI) (wFE h cs I L A Q G J) (tysA cs) sz)) (va_Qi (fun (r : Int32) (u : CS) => ∃ i212 : Int32, ∃ i213 : Int32, ∃ g2 : Nat → Nat → Int32, ∃ g3 : Nat → Nat → Int32, ((∃ i j : Nat, i < M ∧ z = nI i ∧ y = nI j ∧ ((x = nI 0 ∧ j < R ∧ r = g2 j i) ∨ (x = nI 1 ∧ j < M ∧ r = g3 j i)) ∧ ((I 213 = I 123 ∧ i212 = I 212 ∧ i213 = I 213 ∧ g2 = G 2 ∧ g3 = G 3) ∨ (¬ I 213 = I 123 ∧ i213 = I 123 ∧ ∃ n : Nat, i212 = nI n ∧ n ≤ 2000 ∧ Ln R M (G 0) n g2 g3 ∧ (n = 2000 ∨ NoSt R M g2)))) ∨ (r = -1000001 ∧ (∀ i j : Nat, i < M → ((x = nI 0 ∧ j < R ∧ y = nI j ∧ z = nI i) ∨ (x = nI 1 ∧ j < M ∧ y = nI j ∧ z = nI i)) → False) ∧ i212 = I 212 ∧ i213 = I 213 ∧ g2 = G 2 ∧ g3 = G 3)) ∧ u = ((va_up (va_up I 212 i212) 213 i213), L, A, Q, (va_up (va_up G 2 g2) 3 g3), J)) (xB (dC, dI) (tysA cs) (va_A (wFE h cs I L A Q G J) sz) (fun u : CS => wFE h cs u.1 u.2.1 u.2.2.1 u.2.2.2.1 u.2.2.2.2.1 u.2.2.2.2.2)) (va_A (wFE h cs I L A Q G J) sz)) 0 0 (va_A (wFE h cs I L A Q G J) sz) := by
  refine Met.ofW (cc := cX9_ledAt) (maxL := 5) (ret := (some .int)) (by decide) rfl ?_
  intro p e s m args below meth c s₁ B hml hv
  obtain ⟨rfl, hsz, hP, hK, hD0, hN⟩ := hv
  have hx := B.exec
  have hb := B.bytes
  have hr := B.returns
  have hts := atoms_spec (ws := wsX9_ledAt) B.pre
  have hown : s.vm.findClass RX9 = some m.cls := findClass_of_methodNamed B.named
  have hlocks := B.notSynchronized
  subst hsz
  have hD := hD0.self (sz := s.heap.size)
  generalize hAe : va_A (wFE h cs I L A Q G J) s.heap.size = A0 at hD ⊢
  have hA : ∀ q : Nat, s.heap.size ≤ q → A0 q := fun q h => by rw [← hAe]; exact Or.inr h
  have hl := lv_entry ([.ref (h 100), .int x, .int y, .int z]) (n := 5) (Nat.le_of_ble_eq_true rfl)
  rw [lg_entry_eq]
  generalize (lg_sl ([.ref (h 100), .int x, .int y, .int z]) ++ List.replicate (5 - (lg_sl ([.ref (h 100), .int x, .int y, .int z])).length) Slot.unset).toArray = ls at hl ⊢
  have hl : lv_has ls 5 [(0, .ref (h 100)), (1, .int x), (2, .int y), (3, .int z)] := hl
  generalize hH : s.heap = H at hP ⊢
  have hS : va_S A0 s.heap H [] := by rw [← hH]; exact va_S.rf
  have hinX9 : ∀ w ∈ wsX90, w ∈ wsX9_ledAt := by decide +kernel
  have hinX1 : ∀ w ∈ wsX10, w ∈ wsX9_ledAt := by decide +kernel
  refine lv_aload_n hx hb dX9_ledAt_0 rfl (lv_at hl 0 rfl) ?_
  refine va_get (D := (dC, dI)) (ci := 9) (v := .ref (h 101)) (C := RX9) (T := TX9) (N := 9) hx hb hts hinX9 hown hK hP 0 rfl rfl 0 (by decide) (hts (.fieldLink RX9 12 "MixedWords" "mix" "LMixedWords$Mix;") (by decide +kernel)) (fun _ h9 => h9) rfl dX9_ledAt_1 ?_
  refine lv_iload_n hx hb dX9_ledAt_4 rfl (lv_at hl 3 rfl) ?_
  refine xj_i (wc := (wMix h cs I L A Q G J)) (wr := [(h 100, .inr (9, [.ref (h 101), .ref (h 102), .ref (h 103), .ref (h 104), .ref (h 105), .ref (h 106), .ref (h 107), .ref (h 108), .ref (h 109)])), (h 108, .inr (1, [.ref (h 101), .ref (h 200), .ref (h 206), .ref (h 211), .int (I 212), .int (I 213)])), (h 200, .inl (cs 3, 5, .inr (.inr (.inr (.inr (fun i => if i < 5 then some (h (i + 201)) else none)))))), (h 201, .inl (cs 0, 4, .inl ((G 2) 0))), (h 202, .inl (cs 0, 4, .inl ((G 2) 1))), (h 203, .inl (cs 0, 4, .inl ((G 2) 2))), (h 204, .inl (cs 0, 4, .inl ((G 2) 3))), (h 205, .inl (cs 0, 4, .inl ((G 2) 4))), (h 206, .inl (cs 3, 4, .inr (.inr (.inr (.inr (fun i => if i < 4 then some (h (i + 207)) else none)))))), (h 207, .inl (cs 0, 4, .inl ((G 3) 0))), (h 208, .inl (cs 0, 4, .inl ((G 3) 1))), (h 209, .inl (cs 0, 4, .inl ((G 3) 2))), (h 210, .inl (cs 0, 4, .inl ((G 3) 3))), (h 211, .inl (cs 0, 5, .inl (A 211)))]) hP hD hS hA [14, 15, 16, 17, 18, 19, 20, 21] [0, 1, 2, 3, 4, 5, 6, 7, 8, 9, 10, 11, 12, 13] rfl rfl (by decide +kernel) (by decide +kernel) (va_runV (As := [.int z]) (rest := []) ⟨hx, hb, hml, hown, hts⟩ (k_X3_hasColumn l dC dI h cs H.size I L A Q G J z M hM (by first | assumption | omega | exact hM1) (by first | assumption | omega | exact hM4)) (cwV 1 hts gX9_ledAt_X3_hasColumn rfl rfl rfl (by decide +kernel) ⟨Nat.le_of_ble_eq_true rfl, Nat.le_of_ble_eq_true rfl⟩) (xpV (wc := (wMix h cs I L A Q G J)) hP hD hK hN [14, 15, 16, 17, 18, 19, 20, 21] rfl (by decide) 14 (ci := 3) rfl rfl _) rfl rfl hl.1 rfl (lv_room (Nat.le_of_ble_eq_true rfl)) dX9_ledAt_5 ⟨Nat.zero_le _, Nat.zero_le _⟩) (fun r_2 u_1 H locs hw hP hD hS => ?_)
  obtain ⟨hf_3, rfl⟩ := hw
  have hP : va_P (dC, dI) vwCl (wFE h cs I L A Q G J) H := hP
  have hD : va_D A0 (wFE h cs I L A Q G J) := hD
  rcases hf_3 with ⟨rfl, i_4, hi_5, hx_6⟩ | ⟨rfl, hn_7⟩
  · skip
    rw [hx_6] at hl
    refine lv_if_eq (tgt := 46) hx hb dX9_ledAt_8 (by decide) (fun c9 => False.elim (by revert c9; decide +kernel)) (fun _ => ?_)
    refine lv_iload_n hx hb dX9_ledAt_11 rfl (lv_at hl 1 rfl) ?_
    refine lv_if_ne (tgt := 26) hx hb dX9_ledAt_12 (by decide) (fun c_12_7 => ?_) (fun c_12_7 => ?_)
    · skip
      have hnw0 : ¬ x = nI 0 := c_12_7
      refine lv_iload_n hx hb dX9_ledAt_26 rfl (lv_at hl 1 rfl) ?_
      refine lv_iconst (v := nI 1) hx hb dX9_ledAt_27 (by decide) ?_
      refine lv_icmp_ne (tgt := 46) hx hb dX9_ledAt_28 (by decide) (fun c_28_8 => ?_) (fun c_28_8 => ?_)
      · skip
        have hnw1 : ¬ x = nI 1 := c_28_8
        refine lv_iconst (v := nI 0) hx hb dX9_ledAt_46 (by decide) ?_
        refine lv_istore (lv' := [(4, .int (nI 0)), (0, .ref (h 100)), (1, .int x), (2, .int y), (3, .int (nI i_4))]) hx hb dX9_ledAt_47 hl (by decide) rfl (fun ls hl => ?_)
        refine lv_iload hx hb dX9_ledAt_49 (lv_at hl 0 rfl) ?_
        refine lv_if_ne (tgt := 57) hx hb dX9_ledAt_51 (by decide) (fun c9 => False.elim (by revert c9; decide +kernel)) (fun _ => ?_)
        refine lv_ldc (v := (-1000001)) hx hb hown (hts (.constant RX9 239 (-1000001)) (by decide +kernel)) dX9_ledAt_54 ?_
        exact xr_i (v := (-1000001 : Int32)) hx hb hr hlocks hK hS dX9_ledAt_56 ((va_up (va_up I 212 (I 212)) 213 (I 213)), L, A, Q, (va_up (va_up G 2 (G 2)) 3 (G 3)), J) ⟨(I 212), (I 213), (G 2), (G 3), (Or.inr ⟨rfl, fun i j hi h9 => h9.elim (fun q9 => hnw0 q9.1) (fun q9 => hnw1 q9.1), rfl, rfl, rfl, rfl⟩), rfl⟩ hP hD
      · skip
        have hw1 : x = nI 1 := c_28_8
        rw [hw1] at hl
        refine lv_aload_n hx hb dX9_ledAt_31 rfl (lv_at hl 0 rfl) ?_
        refine va_get (D := (dC, dI)) (ci := 9) (v := .ref (h 101)) (C := RX9) (T := TX9) (N := 9) hx hb hts hinX9 hown hK hP 0 rfl rfl 0 (by decide) (hts (.fieldLink RX9 12 "MixedWords" "mix" "LMixedWords$Mix;") (by decide +kernel)) (fun _ h9 => h9) rfl dX9_ledAt_32 ?_
        refine lv_iload_n hx hb dX9_ledAt_35 rfl (lv_at hl 2 rfl) ?_
        refine xj_i (wc := (wMix h cs I L A Q G J)) (wr := [(h 100, .inr (9, [.ref (h 101), .ref (h 102), .ref (h 103), .ref (h 104), .ref (h 105), .ref (h 106), .ref (h 107), .ref (h 108), .ref (h 109)])), (h 108, .inr (1, [.ref (h 101), .ref (h 200), .ref (h 206), .ref (h 211), .int (I 212), .int (I 213)])), (h 200, .inl (cs 3, 5, .inr (.inr (.inr (.inr (fun i => if i < 5 then some (h (i + 201)) else none)))))), (h 201, .inl (cs 0, 4, .inl ((G 2) 0))), (h 202, .inl (cs 0, 4, .inl ((G 2) 1))), (h 203, .inl (cs 0, 4, .inl ((G 2) 2))), (h 204, .inl (cs 0, 4, .inl ((G 2) 3))), (h 205, .inl (cs 0, 4, .inl ((G 2) 4))), (h 206, .inl (cs 3, 4, .inr (.inr (.inr (.inr (fun i => if i < 4 then some (h (i + 207)) else none)))))), (h 207, .inl (cs 0, 4, .inl ((G 3) 0))), (h 208, .inl (cs 0, 4, .inl ((G 3) 1))), (h 209, .inl (cs 0, 4, .inl ((G 3) 2))), (h 210, .inl (cs 0, 4, .inl ((G 3) 3))), (h 211, .inl (cs 0, 5, .inl (A 211)))]) hP hD hS hA [14, 15, 16, 17, 18, 19, 20, 21] [0, 1, 2, 3, 4, 5, 6, 7, 8, 9, 10, 11, 12, 13] rfl rfl (by decide +kernel) (by decide +kernel) (va_runV (As := [.int y]) (rest := []) ⟨hx, hb, hml, hown, hts⟩ (k_X3_hasColumn l dC dI h cs H.size I L A Q G J y M hM (by first | assumption | omega | exact hM1) (by first | assumption | omega | exact hM4)) (cwV 1 hts gX9_ledAt_X3_hasColumn rfl rfl rfl (by decide +kernel) ⟨Nat.le_of_ble_eq_true rfl, Nat.le_of_ble_eq_true rfl⟩) (xpV (wc := (wMix h cs I L A Q G J)) hP hD hK hN [14, 15, 16, 17, 18, 19, 20, 21] rfl (by decide) 14 (ci := 3) rfl rfl _) rfl rfl hl.1 rfl (lv_room (Nat.le_of_ble_eq_true rfl)) dX9_ledAt_36 ⟨Nat.zero_le _, Nat.zero_le _⟩) (fun r_11 u_10 H locs hw hP hD hS => ?_)
        obtain ⟨hf_12, rfl⟩ := hw
        have hP : va_P (dC, dI) vwCl (wFE h cs I L A Q G J) H := hP
        have hD : va_D A0 (wFE h cs I L A Q G J) := hD
        rcases hf_12 with ⟨rfl, i_13, hi_14, hx_15⟩ | ⟨rfl, hn_16⟩
        · skip
          rw [hx_15] at hl
          refine lv_if_eq (tgt := 46) hx hb dX9_ledAt_39 (by decide) (fun c9 => False.elim (by revert c9; decide +kernel)) (fun _ => ?_)
          refine lv_iconst (v := nI 1) hx hb dX9_ledAt_42 (by decide) ?_
          refine lv_goto (tgt := 47) hx hb dX9_ledAt_43 (by decide) ?_
          refine lv_istore (lv' := [(4, .int (nI 1)), (0, .ref (h 100)), (1, .int (nI 1)), (2, .int (nI i_13)), (3, .int (nI i_4))]) hx hb dX9_ledAt_47 hl (by decide) rfl (fun ls hl => ?_)
          refine lv_iload hx hb dX9_ledAt_49 (lv_at hl 0 rfl) ?_
          refine lv_if_ne (tgt := 57) hx hb dX9_ledAt_51 (by decide) (fun _ => ?_) (fun c9 => False.elim (by revert c9; decide +kernel))
          refine lv_aload_n hx hb dX9_ledAt_57 rfl (lv_at hl 1 rfl) ?_
          refine va_get (D := (dC, dI)) (ci := 9) (v := .ref (h 108)) (C := RX9) (T := TX9) (N := 9) hx hb hts hinX9 hown hK hP 0 rfl rfl 7 (by decide) (hts (.fieldLink RX9 65 "MixedWords" "leader" "LMixedWords$Leader;") (by decide +kernel)) (fun _ h9 => h9) rfl dX9_ledAt_58 ?_
          refine xj_v (wc := (wLead h cs I L A Q G J)) (wr := [(h 100, .inr (9, [.ref (h 101), .ref (h 102), .ref (h 103), .ref (h 104), .ref (h 105), .ref (h 106), .ref (h 107), .ref (h 108), .ref (h 109)]))]) hP hD hS hA [1, 2, 3, 4, 5, 6, 7, 8, 9, 10, 11, 12, 13, 14, 15, 16, 17, 18, 19, 20, 21] [0] rfl rfl (by decide +kernel) (by decide +kernel) (va_runV (As := []) (rest := []) ⟨hx, hb, hml, hown, hts⟩ (k_X1_lead l dC dI h cs H.size I L A Q G J R M hR (by first | assumption | omega | exact hR1) (by first | assumption | omega | exact hR5) hM (by first | assumption | omega | exact hM1) (by first | assumption | omega | exact hM4)) (cwV 0 hts gX9_ledAt_X1_lead rfl rfl rfl (by decide +kernel) ⟨Nat.le_of_ble_eq_true rfl, Nat.le_of_ble_eq_true rfl⟩) (xpV (wc := (wLead h cs I L A Q G J)) hP hD hK hN [1, 2, 3, 4, 5, 6, 7, 8, 9, 10, 11, 12, 13, 14, 15, 16, 17, 18, 19, 20, 21] rfl (by decide) 1 (ci := 1) rfl rfl _) rfl rfl hl.1 rfl (lv_room (Nat.le_of_ble_eq_true rfl)) dX9_ledAt_61 ⟨Nat.zero_le _, Nat.zero_le _⟩) (fun u_17 H locs hw hP hD hS => ?_)
          obtain ⟨i212_19, i213_20, g2_21, g3_22, hf_23, rfl⟩ := hw
          have hP : va_P (dC, dI) vwCl (wFE h cs (va_up (va_up I 212 i212_19) 213 i213_20) L A Q (va_up (va_up G 2 g2_21) 3 g3_22) J) H := hP
          have hD : va_D A0 (wFE h cs (va_up (va_up I 212 i212_19) 213 i213_20) L A Q (va_up (va_up G 2 g2_21) 3 g3_22) J) := hD
          have hlc := hf_23
          refine lv_iload_n hx hb dX9_ledAt_64 rfl (lv_at hl 2 rfl) ?_
          refine lv_if_ne (tgt := 82) hx hb dX9_ledAt_65 (by decide) (fun _ => ?_) (fun c9 => False.elim (by revert c9; decide +kernel))
          refine lv_aload_n hx hb dX9_ledAt_82 rfl (lv_at hl 1 rfl) ?_
          refine va_get (D := (dC, dI)) (ci := 9) (v := .ref (h 108)) (C := RX9) (T := TX9) (N := 9) hx hb hts hinX9 hown hK hP 0 rfl rfl 7 (by decide) (hts (.fieldLink RX9 65 "MixedWords" "leader" "LMixedWords$Leader;") (by decide +kernel)) (fun _ h9 => h9) rfl dX9_ledAt_83 ?_
          refine va_get (D := (dC, dI)) (ci := 1) (v := .ref (h 206)) (C := RX1) (T := TX1) (N := 6) hx hb hts hinX1 hown hK hP 1 rfl rfl 2 (by decide) (hts (.fieldLink RX9 243 "MixedWords$Leader" "steps" "[[I") (by decide +kernel)) (fun _ h9 => h9) rfl dX9_ledAt_86 ?_
          refine lv_iload_n hx hb dX9_ledAt_89 rfl (lv_at hl 3 rfl) ?_
          refine xa_aald (b := h (i_13 + 207)) hx hb hK hP 8 3 rfl rfl rfl (by omega) (by decide) (if_pos (by omega)) dX9_ledAt_90 ?_
          refine lv_iload_n hx hb dX9_ledAt_91 rfl (lv_at hl 4 rfl) ?_
          refine xa_iald hx hb hK hP (9 + i_13) 0 (wFE_atG3 (by omega)) rfl (by omega) (by decide) dX9_ledAt_92 ?_
          exact xr_i (v := ((g3_22 i_13) i_4)) hx hb hr hlocks hK hS dX9_ledAt_93 ((va_up (va_up I 212 i212_19) 213 i213_20), L, A, Q, (va_up (va_up G 2 g2_21) 3 g3_22), J) ⟨i212_19, i213_20, g2_21, g3_22, (Or.inl ⟨i_4, i_13, hi_5, hx_6, hx_15, Or.inr ⟨hw1, hi_14, rfl⟩, hlc⟩), rfl⟩ hP hD
        · skip
          refine lv_if_eq (tgt := 46) hx hb dX9_ledAt_39 (by decide) (fun _ => ?_) (fun c9 => False.elim (by revert c9; decide +kernel))
          refine lv_iconst (v := nI 0) hx hb dX9_ledAt_46 (by decide) ?_
          refine lv_istore (lv' := [(4, .int (nI 0)), (0, .ref (h 100)), (1, .int (nI 1)), (2, .int y), (3, .int (nI i_4))]) hx hb dX9_ledAt_47 hl (by decide) rfl (fun ls hl => ?_)
          refine lv_iload hx hb dX9_ledAt_49 (lv_at hl 0 rfl) ?_
          refine lv_if_ne (tgt := 57) hx hb dX9_ledAt_51 (by decide) (fun c9 => False.elim (by revert c9; decide +kernel)) (fun _ => ?_)
          refine lv_ldc (v := (-1000001)) hx hb hown (hts (.constant RX9 239 (-1000001)) (by decide +kernel)) dX9_ledAt_54 ?_
          exact xr_i (v := (-1000001 : Int32)) hx hb hr hlocks hK hS dX9_ledAt_56 ((va_up (va_up I 212 (I 212)) 213 (I 213)), L, A, Q, (va_up (va_up G 2 (G 2)) 3 (G 3)), J) ⟨(I 212), (I 213), (G 2), (G 3), (Or.inr ⟨rfl, fun i j hi h9 => h9.elim (fun q9 => hnw0 q9.1) (fun q9 => hn_16 j q9.2.1 q9.2.2.1), rfl, rfl, rfl, rfl⟩), rfl⟩ hP hD
    · skip
      have hw0 : x = nI 0 := c_12_7
      rw [hw0] at hl
      refine lv_aload_n hx hb dX9_ledAt_15 rfl (lv_at hl 0 rfl) ?_
      refine va_get (D := (dC, dI)) (ci := 9) (v := .ref (h 101)) (C := RX9) (T := TX9) (N := 9) hx hb hts hinX9 hown hK hP 0 rfl rfl 0 (by decide) (hts (.fieldLink RX9 12 "MixedWords" "mix" "LMixedWords$Mix;") (by decide +kernel)) (fun _ h9 => h9) rfl dX9_ledAt_16 ?_
      refine lv_iload_n hx hb dX9_ledAt_19 rfl (lv_at hl 2 rfl) ?_
      refine xj_i (wc := (wMix h cs I L A Q G J)) (wr := [(h 100, .inr (9, [.ref (h 101), .ref (h 102), .ref (h 103), .ref (h 104), .ref (h 105), .ref (h 106), .ref (h 107), .ref (h 108), .ref (h 109)])), (h 108, .inr (1, [.ref (h 101), .ref (h 200), .ref (h 206), .ref (h 211), .int (I 212), .int (I 213)])), (h 200, .inl (cs 3, 5, .inr (.inr (.inr (.inr (fun i => if i < 5 then some (h (i + 201)) else none)))))), (h 201, .inl (cs 0, 4, .inl ((G 2) 0))), (h 202, .inl (cs 0, 4, .inl ((G 2) 1))), (h 203, .inl (cs 0, 4, .inl ((G 2) 2))), (h 204, .inl (cs 0, 4, .inl ((G 2) 3))), (h 205, .inl (cs 0, 4, .inl ((G 2) 4))), (h 206, .inl (cs 3, 4, .inr (.inr (.inr (.inr (fun i => if i < 4 then some (h (i + 207)) else none)))))), (h 207, .inl (cs 0, 4, .inl ((G 3) 0))), (h 208, .inl (cs 0, 4, .inl ((G 3) 1))), (h 209, .inl (cs 0, 4, .inl ((G 3) 2))), (h 210, .inl (cs 0, 4, .inl ((G 3) 3))), (h 211, .inl (cs 0, 5, .inl (A 211)))]) hP hD hS hA [14, 15, 16, 17, 18, 19, 20, 21] [0, 1, 2, 3, 4, 5, 6, 7, 8, 9, 10, 11, 12, 13] rfl rfl (by decide +kernel) (by decide +kernel) (va_runV (As := [.int y]) (rest := []) ⟨hx, hb, hml, hown, hts⟩ (k_X3_hasRow l dC dI h cs H.size I L A Q G J y R hR (by first | assumption | omega | exact hR1) (by first | assumption | omega | exact hR5)) (cwV 1 hts gX9_ledAt_X3_hasRow rfl rfl rfl (by decide +kernel) ⟨Nat.le_of_ble_eq_true rfl, Nat.le_of_ble_eq_true rfl⟩) (xpV (wc := (wMix h cs I L A Q G J)) hP hD hK hN [14, 15, 16, 17, 18, 19, 20, 21] rfl (by decide) 14 (ci := 3) rfl rfl _) rfl rfl hl.1 rfl (lv_room (Nat.le_of_ble_eq_true rfl)) dX9_ledAt_20 ⟨Nat.zero_le _, Nat.zero_le _⟩) (fun r_25 u_24 H locs hw hP hD hS => ?_)
      obtain ⟨hf_26, rfl⟩ := hw
      have hP : va_P (dC, dI) vwCl (wFE h cs I L A Q G J) H := hP
      have hD : va_D A0 (wFE h cs I L A Q G J) := hD
      rcases hf_26 with ⟨rfl, i_27, hi_28, hx_29⟩ | ⟨rfl, hn_30⟩
      · skip
        rw [hx_29] at hl
        refine lv_if_ne (tgt := 42) hx hb dX9_ledAt_23 (by decide) (fun _ => ?_) (fun c9 => False.elim (by revert c9; decide +kernel))
        refine lv_iconst (v := nI 1) hx hb dX9_ledAt_42 (by decide) ?_
        refine lv_goto (tgt := 47) hx hb dX9_ledAt_43 (by decide) ?_
        refine lv_istore (lv' := [(4, .int (nI 1)), (0, .ref (h 100)), (1, .int (nI 0)), (2, .int (nI i_27)), (3, .int (nI i_4))]) hx hb dX9_ledAt_47 hl (by decide) rfl (fun ls hl => ?_)
        refine lv_iload hx hb dX9_ledAt_49 (lv_at hl 0 rfl) ?_
        refine lv_if_ne (tgt := 57) hx hb dX9_ledAt_51 (by decide) (fun _ => ?_) (fun c9 => False.elim (by revert c9; decide +kernel))
        refine lv_aload_n hx hb dX9_ledAt_57 rfl (lv_at hl 1 rfl) ?_
        refine va_get (D := (dC, dI)) (ci := 9) (v := .ref (h 108)) (C := RX9) (T := TX9) (N := 9) hx hb hts hinX9 hown hK hP 0 rfl rfl 7 (by decide) (hts (.fieldLink RX9 65 "MixedWords" "leader" "LMixedWords$Leader;") (by decide +kernel)) (fun _ h9 => h9) rfl dX9_ledAt_58 ?_
        refine xj_v (wc := (wLead h cs I L A Q G J)) (wr := [(h 100, .inr (9, [.ref (h 101), .ref (h 102), .ref (h 103), .ref (h 104), .ref (h 105), .ref (h 106), .ref (h 107), .ref (h 108), .ref (h 109)]))]) hP hD hS hA [1, 2, 3, 4, 5, 6, 7, 8, 9, 10, 11, 12, 13, 14, 15, 16, 17, 18, 19, 20, 21] [0] rfl rfl (by decide +kernel) (by decide +kernel) (va_runV (As := []) (rest := []) ⟨hx, hb, hml, hown, hts⟩ (k_X1_lead l dC dI h cs H.size I L A Q G J R M hR (by first | assumption | omega | exact hR1) (by first | assumption | omega | exact hR5) hM (by first | assumption | omega | exact hM1) (by first | assumption | omega | exact hM4)) (cwV 0 hts gX9_ledAt_X1_lead rfl rfl rfl (by decide +kernel) ⟨Nat.le_of_ble_eq_true rfl, Nat.le_of_ble_eq_true rfl⟩) (xpV (wc := (wLead h cs I L A Q G J)) hP hD hK hN [1, 2, 3, 4, 5, 6, 7, 8, 9, 10, 11, 12, 13, 14, 15, 16, 17, 18, 19, 20, 21] rfl (by decide) 1 (ci := 1) rfl rfl _) rfl rfl hl.1 rfl (lv_room (Nat.le_of_ble_eq_true rfl)) dX9_ledAt_61 ⟨Nat.zero_le _, Nat.zero_le _⟩) (fun u_31 H locs hw hP hD hS => ?_)
        obtain ⟨i212_33, i213_34, g2_35, g3_36, hf_37, rfl⟩ := hw
        have hP : va_P (dC, dI) vwCl (wFE h cs (va_up (va_up I 212 i212_33) 213 i213_34) L A Q (va_up (va_up G 2 g2_35) 3 g3_36) J) H := hP
        have hD : va_D A0 (wFE h cs (va_up (va_up I 212 i212_33) 213 i213_34) L A Q (va_up (va_up G 2 g2_35) 3 g3_36) J) := hD
        have hlc := hf_37
        refine lv_iload_n hx hb dX9_ledAt_64 rfl (lv_at hl 2 rfl) ?_
        refine lv_if_ne (tgt := 82) hx hb dX9_ledAt_65 (by decide) (fun c9 => False.elim (by revert c9; decide +kernel)) (fun _ => ?_)
        refine lv_aload_n hx hb dX9_ledAt_68 rfl (lv_at hl 1 rfl) ?_
        refine va_get (D := (dC, dI)) (ci := 9) (v := .ref (h 108)) (C := RX9) (T := TX9) (N := 9) hx hb hts hinX9 hown hK hP 0 rfl rfl 7 (by decide) (hts (.fieldLink RX9 65 "MixedWords" "leader" "LMixedWords$Leader;") (by decide +kernel)) (fun _ h9 => h9) rfl dX9_ledAt_69 ?_
        refine va_get (D := (dC, dI)) (ci := 1) (v := .ref (h 200)) (C := RX1) (T := TX1) (N := 6) hx hb hts hinX1 hown hK hP 1 rfl rfl 1 (by decide) (hts (.fieldLink RX9 240 "MixedWords$Leader" "columns" "[[I") (by decide +kernel)) (fun _ h9 => h9) rfl dX9_ledAt_72 ?_
        refine lv_iload_n hx hb dX9_ledAt_75 rfl (lv_at hl 3 rfl) ?_
        refine xa_aald (b := h (i_27 + 201)) hx hb hK hP 2 3 rfl rfl rfl (by omega) (by decide) (if_pos (by omega)) dX9_ledAt_76 ?_
        refine lv_iload_n hx hb dX9_ledAt_77 rfl (lv_at hl 4 rfl) ?_
        refine xa_iald hx hb hK hP (3 + i_27) 0 (wFE_atG2 (by omega)) rfl (by omega) (by decide) dX9_ledAt_78 ?_
        refine lv_goto (tgt := 93) hx hb dX9_ledAt_79 (by decide) ?_
        exact xr_i (v := ((g2_35 i_27) i_4)) hx hb hr hlocks hK hS dX9_ledAt_93 ((va_up (va_up I 212 i212_33) 213 i213_34), L, A, Q, (va_up (va_up G 2 g2_35) 3 g3_36), J) ⟨i212_33, i213_34, g2_35, g3_36, (Or.inl ⟨i_4, i_27, hi_5, hx_6, hx_29, Or.inl ⟨hw0, hi_28, rfl⟩, hlc⟩), rfl⟩ hP hD
      · skip
        refine lv_if_ne (tgt := 42) hx hb dX9_ledAt_23 (by decide) (fun c9 => False.elim (by revert c9; decide +kernel)) (fun _ => ?_)
        refine lv_iload_n hx hb dX9_ledAt_26 rfl (lv_at hl 1 rfl) ?_
        refine lv_iconst (v := nI 1) hx hb dX9_ledAt_27 (by decide) ?_
        refine lv_icmp_ne (tgt := 46) hx hb dX9_ledAt_28 (by decide) (fun _ => ?_) (fun c9 => False.elim (by revert c9; decide +kernel))
        refine lv_iconst (v := nI 0) hx hb dX9_ledAt_46 (by decide) ?_
        refine lv_istore (lv' := [(4, .int (nI 0)), (0, .ref (h 100)), (1, .int (nI 0)), (2, .int y), (3, .int (nI i_4))]) hx hb dX9_ledAt_47 hl (by decide) rfl (fun ls hl => ?_)
        refine lv_iload hx hb dX9_ledAt_49 (lv_at hl 0 rfl) ?_
        refine lv_if_ne (tgt := 57) hx hb dX9_ledAt_51 (by decide) (fun c9 => False.elim (by revert c9; decide +kernel)) (fun _ => ?_)
        refine lv_ldc (v := (-1000001)) hx hb hown (hts (.constant RX9 239 (-1000001)) (by decide +kernel)) dX9_ledAt_54 ?_
        exact xr_i (v := (-1000001 : Int32)) hx hb hr hlocks hK hS dX9_ledAt_56 ((va_up (va_up I 212 (I 212)) 213 (I 213)), L, A, Q, (va_up (va_up G 2 (G 2)) 3 (G 3)), J) ⟨(I 212), (I 213), (G 2), (G 3), (Or.inr ⟨rfl, fun i j hi h9 => h9.elim (fun q9 => hn_30 j q9.2.1 q9.2.2.1) (fun q9 => absurd (hw0.symm.trans q9.1) (by decide)), rfl, rfl, rfl, rfl⟩), rfl⟩ hP hD
  · skip
    refine lv_if_eq (tgt := 46) hx hb dX9_ledAt_8 (by decide) (fun _ => ?_) (fun c9 => False.elim (by revert c9; decide +kernel))
    refine lv_iconst (v := nI 0) hx hb dX9_ledAt_46 (by decide) ?_
    refine lv_istore (lv' := [(4, .int (nI 0)), (0, .ref (h 100)), (1, .int x), (2, .int y), (3, .int z)]) hx hb dX9_ledAt_47 hl (by decide) rfl (fun ls hl => ?_)
    refine lv_iload hx hb dX9_ledAt_49 (lv_at hl 0 rfl) ?_
    refine lv_if_ne (tgt := 57) hx hb dX9_ledAt_51 (by decide) (fun c9 => False.elim (by revert c9; decide +kernel)) (fun _ => ?_)
    refine lv_ldc (v := (-1000001)) hx hb hown (hts (.constant RX9 239 (-1000001)) (by decide +kernel)) dX9_ledAt_54 ?_
    exact xr_i (v := (-1000001 : Int32)) hx hb hr hlocks hK hS dX9_ledAt_56 ((va_up (va_up I 212 (I 212)) 213 (I 213)), L, A, Q, (va_up (va_up G 2 (G 2)) 3 (G 3)), J) ⟨(I 212), (I 213), (G 2), (G 3), (Or.inr ⟨rfl, fun i j hi h9 => h9.elim (fun q9 => hn_7 i hi q9.2.2.2) (fun q9 => hn_7 i hi q9.2.2.2), rfl, rfl, rfl, rfl⟩), rfl⟩ hP hD
set_option maxRecDepth 20000 in
theorem ggX9_ledWord_X1_lead : GoodIn wsX9_ledWord wsX1_lead := goodIn_r _ [16, 17, 18, 19, 20, 21, 22, 23, 15, 24, 25, 26, 27, 28, 29, 30, 31, 32, 33, 34, 35, 36, 37, 38, 39, 40, 41, 42, 43, 44, 45, 46, 47, 48, 49, 50, 51, 52, 111, 112, 113, 114, 115, 116, 117, 118, 119, 120, 121, 122] rfl (by decide +kernel)
set_option maxRecDepth 20000 in
theorem gX9_ledWord_X1_lead : GoodIn wsX9_ledWord (wsV RX9 233 RX1 yX1_lead wsX1_lead) := goodIn_app (goodIn_of _ (by decide +kernel)) ggX9_ledWord_X1_lead
set_option maxRecDepth 20000 in
theorem ggX9_ledWord_X1_aim : GoodIn wsX9_ledWord wsX1_aim := goodIn_r _ [56, 18, 41, 36, 25, 57, 58, 59, 111, 112, 113, 114, 115, 116, 117, 118, 119, 120, 121, 122] rfl (by decide +kernel)
set_option maxRecDepth 20000 in
theorem gX9_ledWord_X1_aim : GoodIn wsX9_ledWord (wsV RX9 246 RX1 yX1_aim wsX1_aim) := goodIn_app (goodIn_of _ (by decide +kernel)) ggX9_ledWord_X1_aim
set_option maxRecDepth 20000 in
theorem ggX9_ledWord_X2_solve : GoodIn wsX9_ledWord wsX2_solve := goodIn_r _ [64, 65, 66, 67, 68, 46, 47, 48, 69, 70, 63, 71, 72, 73, 74, 75, 123, 124, 125, 126, 127] rfl (by decide +kernel)
set_option maxRecDepth 20000 in
theorem gX9_ledWord_X2_solve : GoodIn wsX9_ledWord (wsV RX9 188 RX2 yX2_solve wsX2_solve) := goodIn_app (goodIn_of _ (by decide +kernel)) ggX9_ledWord_X2_solve
set_option maxRecDepth 20000 in
theorem ggX9_ledWord_X9_nearestHalf : GoodIn wsX9_ledWord wsX9_nearestHalf := goodIn_r _ [78, 79, 80, 81, 47, 82, 83, 84, 85, 86] rfl (by decide +kernel)
set_option maxRecDepth 20000 in
theorem gX9_ledWord_X9_nearestHalf : GoodIn wsX9_ledWord (va_wsS RX9 252 yX9_nearestHalf wsX9_nearestHalf) := goodIn_app (goodIn_of _ (by decide +kernel)) ggX9_ledWord_X9_nearestHalf
set_option maxRecDepth 20000 in
theorem ggX9_ledWord_X9_held : GoodIn wsX9_ledWord wsX9_held := goodIn_r _ [89, 90, 91, 44, 92, 93, 94, 95] rfl (by decide +kernel)
set_option maxRecDepth 20000 in
theorem gX9_ledWord_X9_held : GoodIn wsX9_ledWord (va_wsS RX9 255 yX9_held wsX9_held) := goodIn_app (goodIn_of _ (by decide +kernel)) ggX9_ledWord_X9_held
set_option maxRecDepth 20000 in
theorem ggX9_ledWord_X3_follow : GoodIn wsX9_ledWord wsX3_follow := goodIn_r _ [100, 101, 117, 118, 119, 120, 121, 122] rfl (by decide +kernel)
set_option maxRecDepth 20000 in
theorem gX9_ledWord_X3_follow : GoodIn wsX9_ledWord (wsV RX9 204 RX3 yX3_follow wsX3_follow) := goodIn_app (goodIn_of _ (by decide +kernel)) ggX9_ledWord_X3_follow
theorem bdX9_ledWord_0 : (decode cX9_ledWord 0 = .ok (.aload_n 0, 1)) ∧ (decode cX9_ledWord 1 = .ok (.getfield 65, 3)) ∧ (decode cX9_ledWord 4 = .ok (.invokevirtual 233, 3)) ∧ (decode cX9_ledWord 7 = .ok (.aload_n 0, 1)) ∧ (decode cX9_ledWord 8 = .ok (.getfield 65, 3)) ∧ (decode cX9_ledWord 11 = .ok (.invokevirtual 246, 3)) ∧ (decode cX9_ledWord 14 = .ok (.aload_n 0, 1)) ∧ (decode cX9_ledWord 15 = .ok (.getfield 51, 3)) ∧ (decode cX9_ledWord 18 = .ok (.aload_n 0, 1)) ∧ (decode cX9_ledWord 19 = .ok (.getfield 65, 3)) ∧ (decode cX9_ledWord 22 = .ok (.getfield 240, 3)) ∧ (decode cX9_ledWord 25 = .ok (.aload_n 0, 1)) ∧ (decode cX9_ledWord 26 = .ok (.getfield 65, 3)) ∧ (decode cX9_ledWord 29 = .ok (.getfield 249, 3)) ∧ (decode cX9_ledWord 32 = .ok (.aload_n 0, 1)) ∧ (decode cX9_ledWord 33 = .ok (.getfield 12, 3)) := by decide +kernel
theorem dX9_ledWord_0 : decode cX9_ledWord 0 = .ok (.aload_n 0, 1) := bdX9_ledWord_0.1
theorem dX9_ledWord_1 : decode cX9_ledWord 1 = .ok (.getfield 65, 3) := bdX9_ledWord_0.2.1
theorem dX9_ledWord_4 : decode cX9_ledWord 4 = .ok (.invokevirtual 233, 3) := bdX9_ledWord_0.2.2.1
theorem dX9_ledWord_7 : decode cX9_ledWord 7 = .ok (.aload_n 0, 1) := bdX9_ledWord_0.2.2.2.1
theorem dX9_ledWord_8 : decode cX9_ledWord 8 = .ok (.getfield 65, 3) := bdX9_ledWord_0.2.2.2.2.1
theorem dX9_ledWord_11 : decode cX9_ledWord 11 = .ok (.invokevirtual 246, 3) := bdX9_ledWord_0.2.2.2.2.2.1
theorem dX9_ledWord_14 : decode cX9_ledWord 14 = .ok (.aload_n 0, 1) := bdX9_ledWord_0.2.2.2.2.2.2.1
theorem dX9_ledWord_15 : decode cX9_ledWord 15 = .ok (.getfield 51, 3) := bdX9_ledWord_0.2.2.2.2.2.2.2.1
theorem dX9_ledWord_18 : decode cX9_ledWord 18 = .ok (.aload_n 0, 1) := bdX9_ledWord_0.2.2.2.2.2.2.2.2.1
theorem dX9_ledWord_19 : decode cX9_ledWord 19 = .ok (.getfield 65, 3) := bdX9_ledWord_0.2.2.2.2.2.2.2.2.2.1
theorem dX9_ledWord_22 : decode cX9_ledWord 22 = .ok (.getfield 240, 3) := bdX9_ledWord_0.2.2.2.2.2.2.2.2.2.2.1
theorem dX9_ledWord_25 : decode cX9_ledWord 25 = .ok (.aload_n 0, 1) := bdX9_ledWord_0.2.2.2.2.2.2.2.2.2.2.2.1
theorem dX9_ledWord_26 : decode cX9_ledWord 26 = .ok (.getfield 65, 3) := bdX9_ledWord_0.2.2.2.2.2.2.2.2.2.2.2.2.1
theorem dX9_ledWord_29 : decode cX9_ledWord 29 = .ok (.getfield 249, 3) := bdX9_ledWord_0.2.2.2.2.2.2.2.2.2.2.2.2.2.1
theorem dX9_ledWord_32 : decode cX9_ledWord 32 = .ok (.aload_n 0, 1) := bdX9_ledWord_0.2.2.2.2.2.2.2.2.2.2.2.2.2.2.1
theorem dX9_ledWord_33 : decode cX9_ledWord 33 = .ok (.getfield 12, 3) := bdX9_ledWord_0.2.2.2.2.2.2.2.2.2.2.2.2.2.2.2
theorem bdX9_ledWord_36 : (decode cX9_ledWord 36 = .ok (.getfield 147, 3)) ∧ (decode cX9_ledWord 39 = .ok (.aload_n 0, 1)) ∧ (decode cX9_ledWord 40 = .ok (.getfield 12, 3)) ∧ (decode cX9_ledWord 43 = .ok (.getfield 106, 3)) ∧ (decode cX9_ledWord 46 = .ok (.invokevirtual 188, 3)) ∧ (decode cX9_ledWord 49 = .ok (.aload_n 0, 1)) ∧ (decode cX9_ledWord 50 = .ok (.getfield 51, 3)) ∧ (decode cX9_ledWord 53 = .ok (.getfield 192, 3)) ∧ (decode cX9_ledWord 56 = .ok (.lconst 0, 1)) ∧ (decode cX9_ledWord 57 = .ok (.lcmp, 1)) ∧ (decode cX9_ledWord 58 = .ok (.ifCond .gt 6, 3)) ∧ (decode cX9_ledWord 61 = .ok (.bipush (-2), 2)) ∧ (decode cX9_ledWord 63 = .ok (.ireturn, 1)) ∧ (decode cX9_ledWord 64 = .ok (.iconst 0, 1)) ∧ (decode cX9_ledWord 65 = .ok (.istore_n 1, 1)) ∧ (decode cX9_ledWord 66 = .ok (.iconst 0, 1)) := by decide +kernel
theorem dX9_ledWord_36 : decode cX9_ledWord 36 = .ok (.getfield 147, 3) := bdX9_ledWord_36.1
theorem dX9_ledWord_39 : decode cX9_ledWord 39 = .ok (.aload_n 0, 1) := bdX9_ledWord_36.2.1
theorem dX9_ledWord_40 : decode cX9_ledWord 40 = .ok (.getfield 12, 3) := bdX9_ledWord_36.2.2.1
theorem dX9_ledWord_43 : decode cX9_ledWord 43 = .ok (.getfield 106, 3) := bdX9_ledWord_36.2.2.2.1
theorem dX9_ledWord_46 : decode cX9_ledWord 46 = .ok (.invokevirtual 188, 3) := bdX9_ledWord_36.2.2.2.2.1
theorem dX9_ledWord_49 : decode cX9_ledWord 49 = .ok (.aload_n 0, 1) := bdX9_ledWord_36.2.2.2.2.2.1
theorem dX9_ledWord_50 : decode cX9_ledWord 50 = .ok (.getfield 51, 3) := bdX9_ledWord_36.2.2.2.2.2.2.1
theorem dX9_ledWord_53 : decode cX9_ledWord 53 = .ok (.getfield 192, 3) := bdX9_ledWord_36.2.2.2.2.2.2.2.1
theorem dX9_ledWord_56 : decode cX9_ledWord 56 = .ok (.lconst 0, 1) := bdX9_ledWord_36.2.2.2.2.2.2.2.2.1
theorem dX9_ledWord_57 : decode cX9_ledWord 57 = .ok (.lcmp, 1) := bdX9_ledWord_36.2.2.2.2.2.2.2.2.2.1
theorem dX9_ledWord_58 : decode cX9_ledWord 58 = .ok (.ifCond .gt 6, 3) := bdX9_ledWord_36.2.2.2.2.2.2.2.2.2.2.1
theorem dX9_ledWord_61 : decode cX9_ledWord 61 = .ok (.bipush (-2), 2) := bdX9_ledWord_36.2.2.2.2.2.2.2.2.2.2.2.1
theorem dX9_ledWord_63 : decode cX9_ledWord 63 = .ok (.ireturn, 1) := bdX9_ledWord_36.2.2.2.2.2.2.2.2.2.2.2.2.1
theorem dX9_ledWord_64 : decode cX9_ledWord 64 = .ok (.iconst 0, 1) := bdX9_ledWord_36.2.2.2.2.2.2.2.2.2.2.2.2.2.1
theorem dX9_ledWord_65 : decode cX9_ledWord 65 = .ok (.istore_n 1, 1) := bdX9_ledWord_36.2.2.2.2.2.2.2.2.2.2.2.2.2.2.1
theorem dX9_ledWord_66 : decode cX9_ledWord 66 = .ok (.iconst 0, 1) := bdX9_ledWord_36.2.2.2.2.2.2.2.2.2.2.2.2.2.2.2
theorem bdX9_ledWord_67 : (decode cX9_ledWord 67 = .ok (.istore_n 2, 1)) ∧ (decode cX9_ledWord 68 = .ok (.iload_n 2, 1)) ∧ (decode cX9_ledWord 69 = .ok (.aload_n 0, 1)) ∧ (decode cX9_ledWord 70 = .ok (.getfield 12, 3)) ∧ (decode cX9_ledWord 73 = .ok (.getfield 106, 3)) ∧ (decode cX9_ledWord 76 = .ok (.if_icmp .ge 89, 3)) ∧ (decode cX9_ledWord 79 = .ok (.lconst 0, 1)) ∧ (decode cX9_ledWord 80 = .ok (.lstore_n 3, 1)) ∧ (decode cX9_ledWord 81 = .ok (.iconst 0, 1)) ∧ (decode cX9_ledWord 82 = .ok (.istore 5, 2)) ∧ (decode cX9_ledWord 84 = .ok (.iload 5, 2)) ∧ (decode cX9_ledWord 86 = .ok (.aload_n 0, 1)) ∧ (decode cX9_ledWord 87 = .ok (.getfield 12, 3)) ∧ (decode cX9_ledWord 90 = .ok (.getfield 106, 3)) ∧ (decode cX9_ledWord 93 = .ok (.if_icmp .ge 46, 3)) ∧ (decode cX9_ledWord 96 = .ok (.lload_n 3, 1)) := by decide +kernel
theorem dX9_ledWord_67 : decode cX9_ledWord 67 = .ok (.istore_n 2, 1) := bdX9_ledWord_67.1
theorem dX9_ledWord_68 : decode cX9_ledWord 68 = .ok (.iload_n 2, 1) := bdX9_ledWord_67.2.1
theorem dX9_ledWord_69 : decode cX9_ledWord 69 = .ok (.aload_n 0, 1) := bdX9_ledWord_67.2.2.1
theorem dX9_ledWord_70 : decode cX9_ledWord 70 = .ok (.getfield 12, 3) := bdX9_ledWord_67.2.2.2.1
theorem dX9_ledWord_73 : decode cX9_ledWord 73 = .ok (.getfield 106, 3) := bdX9_ledWord_67.2.2.2.2.1
theorem dX9_ledWord_76 : decode cX9_ledWord 76 = .ok (.if_icmp .ge 89, 3) := bdX9_ledWord_67.2.2.2.2.2.1
theorem dX9_ledWord_79 : decode cX9_ledWord 79 = .ok (.lconst 0, 1) := bdX9_ledWord_67.2.2.2.2.2.2.1
theorem dX9_ledWord_80 : decode cX9_ledWord 80 = .ok (.lstore_n 3, 1) := bdX9_ledWord_67.2.2.2.2.2.2.2.1
theorem dX9_ledWord_81 : decode cX9_ledWord 81 = .ok (.iconst 0, 1) := bdX9_ledWord_67.2.2.2.2.2.2.2.2.1
theorem dX9_ledWord_82 : decode cX9_ledWord 82 = .ok (.istore 5, 2) := bdX9_ledWord_67.2.2.2.2.2.2.2.2.2.1
theorem dX9_ledWord_84 : decode cX9_ledWord 84 = .ok (.iload 5, 2) := bdX9_ledWord_67.2.2.2.2.2.2.2.2.2.2.1
theorem dX9_ledWord_86 : decode cX9_ledWord 86 = .ok (.aload_n 0, 1) := bdX9_ledWord_67.2.2.2.2.2.2.2.2.2.2.2.1
theorem dX9_ledWord_87 : decode cX9_ledWord 87 = .ok (.getfield 12, 3) := bdX9_ledWord_67.2.2.2.2.2.2.2.2.2.2.2.2.1
theorem dX9_ledWord_90 : decode cX9_ledWord 90 = .ok (.getfield 106, 3) := bdX9_ledWord_67.2.2.2.2.2.2.2.2.2.2.2.2.2.1
theorem dX9_ledWord_93 : decode cX9_ledWord 93 = .ok (.if_icmp .ge 46, 3) := bdX9_ledWord_67.2.2.2.2.2.2.2.2.2.2.2.2.2.2.1
theorem dX9_ledWord_96 : decode cX9_ledWord 96 = .ok (.lload_n 3, 1) := bdX9_ledWord_67.2.2.2.2.2.2.2.2.2.2.2.2.2.2.2
theorem bdX9_ledWord_97 : (decode cX9_ledWord 97 = .ok (.aload_n 0, 1)) ∧ (decode cX9_ledWord 98 = .ok (.getfield 65, 3)) ∧ (decode cX9_ledWord 101 = .ok (.getfield 243, 3)) ∧ (decode cX9_ledWord 104 = .ok (.iload_n 2, 1)) ∧ (decode cX9_ledWord 105 = .ok (.aaload, 1)) ∧ (decode cX9_ledWord 106 = .ok (.iload 5, 2)) ∧ (decode cX9_ledWord 108 = .ok (.iaload, 1)) ∧ (decode cX9_ledWord 109 = .ok (.i2l, 1)) ∧ (decode cX9_ledWord 110 = .ok (.aload_n 0, 1)) ∧ (decode cX9_ledWord 111 = .ok (.getfield 51, 3)) ∧ (decode cX9_ledWord 114 = .ok (.getfield 196, 3)) ∧ (decode cX9_ledWord 117 = .ok (.iload 5, 2)) ∧ (decode cX9_ledWord 119 = .ok (.laload, 1)) ∧ (decode cX9_ledWord 120 = .ok (.aload_n 0, 1)) ∧ (decode cX9_ledWord 121 = .ok (.getfield 51, 3)) ∧ (decode cX9_ledWord 124 = .ok (.getfield 192, 3)) := by decide +kernel
theorem dX9_ledWord_97 : decode cX9_ledWord 97 = .ok (.aload_n 0, 1) := bdX9_ledWord_97.1
theorem dX9_ledWord_98 : decode cX9_ledWord 98 = .ok (.getfield 65, 3) := bdX9_ledWord_97.2.1
theorem dX9_ledWord_101 : decode cX9_ledWord 101 = .ok (.getfield 243, 3) := bdX9_ledWord_97.2.2.1
theorem dX9_ledWord_104 : decode cX9_ledWord 104 = .ok (.iload_n 2, 1) := bdX9_ledWord_97.2.2.2.1
theorem dX9_ledWord_105 : decode cX9_ledWord 105 = .ok (.aaload, 1) := bdX9_ledWord_97.2.2.2.2.1
theorem dX9_ledWord_106 : decode cX9_ledWord 106 = .ok (.iload 5, 2) := bdX9_ledWord_97.2.2.2.2.2.1
theorem dX9_ledWord_108 : decode cX9_ledWord 108 = .ok (.iaload, 1) := bdX9_ledWord_97.2.2.2.2.2.2.1
theorem dX9_ledWord_109 : decode cX9_ledWord 109 = .ok (.i2l, 1) := bdX9_ledWord_97.2.2.2.2.2.2.2.1
theorem dX9_ledWord_110 : decode cX9_ledWord 110 = .ok (.aload_n 0, 1) := bdX9_ledWord_97.2.2.2.2.2.2.2.2.1
theorem dX9_ledWord_111 : decode cX9_ledWord 111 = .ok (.getfield 51, 3) := bdX9_ledWord_97.2.2.2.2.2.2.2.2.2.1
theorem dX9_ledWord_114 : decode cX9_ledWord 114 = .ok (.getfield 196, 3) := bdX9_ledWord_97.2.2.2.2.2.2.2.2.2.2.1
theorem dX9_ledWord_117 : decode cX9_ledWord 117 = .ok (.iload 5, 2) := bdX9_ledWord_97.2.2.2.2.2.2.2.2.2.2.2.1
theorem dX9_ledWord_119 : decode cX9_ledWord 119 = .ok (.laload, 1) := bdX9_ledWord_97.2.2.2.2.2.2.2.2.2.2.2.2.1
theorem dX9_ledWord_120 : decode cX9_ledWord 120 = .ok (.aload_n 0, 1) := bdX9_ledWord_97.2.2.2.2.2.2.2.2.2.2.2.2.2.1
theorem dX9_ledWord_121 : decode cX9_ledWord 121 = .ok (.getfield 51, 3) := bdX9_ledWord_97.2.2.2.2.2.2.2.2.2.2.2.2.2.2.1
theorem dX9_ledWord_124 : decode cX9_ledWord 124 = .ok (.getfield 192, 3) := bdX9_ledWord_97.2.2.2.2.2.2.2.2.2.2.2.2.2.2.2
theorem bdX9_ledWord_127 : (decode cX9_ledWord 127 = .ok (.invokestatic 252, 3)) ∧ (decode cX9_ledWord 130 = .ok (.lmul, 1)) ∧ (decode cX9_ledWord 131 = .ok (.ladd, 1)) ∧ (decode cX9_ledWord 132 = .ok (.lstore_n 3, 1)) ∧ (decode cX9_ledWord 133 = .ok (.iinc 5 1, 3)) ∧ (decode cX9_ledWord 136 = .ok (.goto (-52), 3)) ∧ (decode cX9_ledWord 139 = .ok (.aload_n 0, 1)) ∧ (decode cX9_ledWord 140 = .ok (.getfield 12, 3)) ∧ (decode cX9_ledWord 143 = .ok (.iload_n 1, 1)) ∧ (decode cX9_ledWord 144 = .ok (.lload_n 3, 1)) ∧ (decode cX9_ledWord 145 = .ok (.aload_n 0, 1)) ∧ (decode cX9_ledWord 146 = .ok (.getfield 12, 3)) ∧ (decode cX9_ledWord 149 = .ok (.getfield 83, 3)) ∧ (decode cX9_ledWord 152 = .ok (.invokestatic 255, 3)) ∧ (decode cX9_ledWord 155 = .ok (.invokevirtual 204, 3)) ∧ (decode cX9_ledWord 158 = .ok (.istore_n 1, 1)) := by decide +kernel
theorem dX9_ledWord_127 : decode cX9_ledWord 127 = .ok (.invokestatic 252, 3) := bdX9_ledWord_127.1
theorem dX9_ledWord_130 : decode cX9_ledWord 130 = .ok (.lmul, 1) := bdX9_ledWord_127.2.1
theorem dX9_ledWord_131 : decode cX9_ledWord 131 = .ok (.ladd, 1) := bdX9_ledWord_127.2.2.1
theorem dX9_ledWord_132 : decode cX9_ledWord 132 = .ok (.lstore_n 3, 1) := bdX9_ledWord_127.2.2.2.1
theorem dX9_ledWord_133 : decode cX9_ledWord 133 = .ok (.iinc 5 1, 3) := bdX9_ledWord_127.2.2.2.2.1
theorem dX9_ledWord_136 : decode cX9_ledWord 136 = .ok (.goto (-52), 3) := bdX9_ledWord_127.2.2.2.2.2.1
theorem dX9_ledWord_139 : decode cX9_ledWord 139 = .ok (.aload_n 0, 1) := bdX9_ledWord_127.2.2.2.2.2.2.1
theorem dX9_ledWord_140 : decode cX9_ledWord 140 = .ok (.getfield 12, 3) := bdX9_ledWord_127.2.2.2.2.2.2.2.1
theorem dX9_ledWord_143 : decode cX9_ledWord 143 = .ok (.iload_n 1, 1) := bdX9_ledWord_127.2.2.2.2.2.2.2.2.1
theorem dX9_ledWord_144 : decode cX9_ledWord 144 = .ok (.lload_n 3, 1) := bdX9_ledWord_127.2.2.2.2.2.2.2.2.2.1
theorem dX9_ledWord_145 : decode cX9_ledWord 145 = .ok (.aload_n 0, 1) := bdX9_ledWord_127.2.2.2.2.2.2.2.2.2.2.1
theorem dX9_ledWord_146 : decode cX9_ledWord 146 = .ok (.getfield 12, 3) := bdX9_ledWord_127.2.2.2.2.2.2.2.2.2.2.2.1
theorem dX9_ledWord_149 : decode cX9_ledWord 149 = .ok (.getfield 83, 3) := bdX9_ledWord_127.2.2.2.2.2.2.2.2.2.2.2.2.1
theorem dX9_ledWord_152 : decode cX9_ledWord 152 = .ok (.invokestatic 255, 3) := bdX9_ledWord_127.2.2.2.2.2.2.2.2.2.2.2.2.2.1
theorem dX9_ledWord_155 : decode cX9_ledWord 155 = .ok (.invokevirtual 204, 3) := bdX9_ledWord_127.2.2.2.2.2.2.2.2.2.2.2.2.2.2.1
theorem dX9_ledWord_158 : decode cX9_ledWord 158 = .ok (.istore_n 1, 1) := bdX9_ledWord_127.2.2.2.2.2.2.2.2.2.2.2.2.2.2.2
theorem bdX9_ledWord_159 : (decode cX9_ledWord 159 = .ok (.iinc 2 1, 3)) ∧ (decode cX9_ledWord 162 = .ok (.goto (-94), 3)) ∧ (decode cX9_ledWord 165 = .ok (.iload_n 1, 1)) ∧ (decode cX9_ledWord 166 = .ok (.ireturn, 1)) := by decide +kernel
theorem dX9_ledWord_159 : decode cX9_ledWord 159 = .ok (.iinc 2 1, 3) := bdX9_ledWord_159.1
theorem dX9_ledWord_162 : decode cX9_ledWord 162 = .ok (.goto (-94), 3) := bdX9_ledWord_159.2.1
theorem dX9_ledWord_165 : decode cX9_ledWord 165 = .ok (.iload_n 1, 1) := bdX9_ledWord_159.2.2.1
theorem dX9_ledWord_166 : decode cX9_ledWord 166 = .ok (.ireturn, 1) := bdX9_ledWord_159.2.2.2
set_option maxHeartbeats 4000000 in
set_option maxRecDepth 100000 in
theorem k_X9_ledWord (l : Launch) (dC : Nat → ClassId) (dI : Nat → Nat → Nat) (h : Nat → Nat) (cs : Nat → ClassId) (sz : Nat) (I : Nat → Int32) (L : Nat → Int64) (A : Nat → Nat → Int32) (Q : Nat → Nat → Int64) (G : Nat → Nat → Nat → Int32) (J : Nat → Nat → Nat → Int64) (R M a : Nat) (hR : I 120 = nI R) (hR1 : 1 ≤ R) (hR5 : R ≤ 5) (hM : I 121 = nI M) (hM1 : 1 ≤ M) (hM4 : M ≤ 4) (ha : I 122 = nI a) (ha2 : a = 2 ∨ a = 4) : Met l yX9_ledWord wsX9_ledWord ({ frames := 6, cells := 0, slots := 0, locals := 166 }) (va_Pc [.ref (h 100)] (xPre (dC, dI) (wFW h cs I L A Q G J) (tysA cs) sz)) (va_Qi (fun (r : Int32) (u : CS) => ∃ i212 : Int32, ∃ i213 : Int32, ∃ l188 : Int64, ∃ a211 : Nat → Int32, ∃ q185 : Nat → Int64, ∃ q187 : Nat → Int64, ∃ g2 : Nat → Nat → Int32, ∃ g3 : Nat → Nat → Int32, ∃ j0 : Nat → Nat → Int64, (((I 213 = I 123 ∧ i212 = I 212 ∧ i213 = I 213 ∧ g2 = G 2 ∧ g3 = G 3) ∨ (¬ I 213 = I 123 ∧ i213 = I 123 ∧ ∃ n : Nat, i212 = nI n ∧ n ≤ 2000 ∧ Ln R M (G 0) n g2 g3 ∧ (n = 2000 ∨ NoSt R M g2)))) ∧ u = ((va_up (va_up I 212 i212) 213 i213), (va_up L 188 l188), (va_up A 211 a211), (va_up (va_up Q 185 q185) 187 q187), (va_up (va_up G 2 g2) 3 g3), (va_up J 0 j0))) (xB (dC, dI) (tysA cs) (va_A (wFW h cs I L A Q G J) sz) (fun u : CS => wFW h cs u.1 u.2.1 u.2.2.1 u.2.2.2.1 u.2.2.2.2.1 u.2.2.2.2.2)) (va_A (wFW h cs I L A Q G J) sz)) 0 0 (va_A (wFW h cs I L A Q G J) sz) := by
  refine Met.ofW (cc := cX9_ledWord) (maxL := 6) (ret := (some .int)) (by decide) rfl ?_
  intro p e s m args below meth c s₁ B hml hv
  obtain ⟨rfl, hsz, hP, hK, hD0, hN⟩ := hv
  have hx := B.exec
  have hb := B.bytes
  have hr := B.returns
  have hts := atoms_spec (ws := wsX9_ledWord) B.pre
  have hown : s.vm.findClass RX9 = some m.cls := findClass_of_methodNamed B.named
  have hlocks := B.notSynchronized
  subst hsz
  have hD := hD0.self (sz := s.heap.size)
  generalize hAe : va_A (wFW h cs I L A Q G J) s.heap.size = A0 at hD ⊢
  have hA : ∀ q : Nat, s.heap.size ≤ q → A0 q := fun q h => by rw [← hAe]; exact Or.inr h
  have hl := lv_entry ([.ref (h 100)]) (n := 6) (Nat.le_of_ble_eq_true rfl)
  rw [lg_entry_eq]
  generalize (lg_sl ([.ref (h 100)]) ++ List.replicate (6 - (lg_sl ([.ref (h 100)])).length) Slot.unset).toArray = ls at hl ⊢
  have hl : lv_has ls 6 [(0, .ref (h 100))] := hl
  generalize hH : s.heap = H at hP ⊢
  have hS : va_S A0 s.heap H [] := by rw [← hH]; exact va_S.rf
  have hinX9 : ∀ w ∈ wsX90, w ∈ wsX9_ledWord := by decide +kernel
  have hinX1 : ∀ w ∈ wsX10, w ∈ wsX9_ledWord := by decide +kernel
  have hinX3 : ∀ w ∈ wsX30, w ∈ wsX9_ledWord := by decide +kernel
  have hinX2 : ∀ w ∈ wsX20, w ∈ wsX9_ledWord := by decide +kernel
  refine lv_aload_n hx hb dX9_ledWord_0 rfl (lv_at hl 0 rfl) ?_
  refine va_get (D := (dC, dI)) (ci := 9) (v := .ref (h 108)) (C := RX9) (T := TX9) (N := 9) hx hb hts hinX9 hown hK hP 0 rfl rfl 7 (by decide) (hts (.fieldLink RX9 65 "MixedWords" "leader" "LMixedWords$Leader;") (by decide +kernel)) (fun _ h9 => h9) rfl dX9_ledWord_1 ?_
  refine xj_v (wc := (wLead h cs I L A Q G J)) (wr := [(h 100, .inr (9, [.ref (h 101), .ref (h 102), .ref (h 103), .ref (h 104), .ref (h 105), .ref (h 106), .ref (h 107), .ref (h 108), .ref (h 109)])), (h 106, .inr (2, [.ref (h 180), .ref (h 185), .ref (h 186), .ref (h 187), .long (L 188)])), (h 180, .inl (cs 4, 4, .inr (.inr (.inr (.inr (fun i => if i < 4 then some (h (i + 181)) else none)))))), (h 181, .inl (cs 1, 4, .inr (.inl ((J 0) 0)))), (h 182, .inl (cs 1, 4, .inr (.inl ((J 0) 1)))), (h 183, .inl (cs 1, 4, .inr (.inl ((J 0) 2)))), (h 184, .inl (cs 1, 4, .inr (.inl ((J 0) 3)))), (h 185, .inl (cs 1, 4, .inr (.inl (Q 185)))), (h 186, .inl (cs 0, 4, .inl (A 186))), (h 187, .inl (cs 1, 4, .inr (.inl (Q 187))))]) hP hD hS hA [1, 2, 3, 4, 5, 6, 7, 8, 9, 10, 11, 12, 13, 23, 24, 25, 26, 27, 28, 29, 30] [0, 14, 15, 16, 17, 18, 19, 20, 21, 22] rfl rfl (by decide +kernel) (by decide +kernel) (va_runV (As := []) (rest := []) ⟨hx, hb, hml, hown, hts⟩ (k_X1_lead l dC dI h cs H.size I L A Q G J R M hR (by first | assumption | omega | exact hR1) (by first | assumption | omega | exact hR5) hM (by first | assumption | omega | exact hM1) (by first | assumption | omega | exact hM4)) (cwV 0 hts gX9_ledWord_X1_lead rfl rfl rfl (by decide +kernel) ⟨Nat.le_of_ble_eq_true rfl, Nat.le_of_ble_eq_true rfl⟩) (xpV (wc := (wLead h cs I L A Q G J)) hP hD hK hN [1, 2, 3, 4, 5, 6, 7, 8, 9, 10, 11, 12, 13, 23, 24, 25, 26, 27, 28, 29, 30] rfl (by decide) 1 (ci := 1) rfl rfl _) rfl rfl hl.1 rfl (lv_room (Nat.le_of_ble_eq_true rfl)) dX9_ledWord_4 ⟨Nat.zero_le _, Nat.zero_le _⟩) (fun u_1 H locs hw hP hD hS => ?_)
  obtain ⟨i212_3, i213_4, g2_5, g3_6, hf_7, rfl⟩ := hw
  have hP : va_P (dC, dI) vwCl (wFW h cs (va_up (va_up I 212 i212_3) 213 i213_4) L A Q (va_up (va_up G 2 g2_5) 3 g3_6) J) H := xP_sub hP [0, 10, 11, 12, 13, 14, 15, 16, 17, 18, 19, 20, 21, 22, 1, 2, 3, 4, 5, 6, 7, 8, 9, 23, 24, 25, 26, 27, 28, 29, 30] rfl
  have hD : va_D A0 (wFW h cs (va_up (va_up I 212 i212_3) 213 i213_4) L A Q (va_up (va_up G 2 g2_5) 3 g3_6) J) := hD.sub [0, 10, 11, 12, 13, 14, 15, 16, 17, 18, 19, 20, 21, 22, 1, 2, 3, 4, 5, 6, 7, 8, 9, 23, 24, 25, 26, 27, 28, 29, 30] (by decide +kernel) rfl
  have hlc := hf_7
  refine lv_aload_n hx hb dX9_ledWord_7 rfl (lv_at hl 0 rfl) ?_
  refine va_get (D := (dC, dI)) (ci := 9) (v := .ref (h 108)) (C := RX9) (T := TX9) (N := 9) hx hb hts hinX9 hown hK hP 0 rfl rfl 7 (by decide) (hts (.fieldLink RX9 65 "MixedWords" "leader" "LMixedWords$Leader;") (by decide +kernel)) (fun _ h9 => h9) rfl dX9_ledWord_8 ?_
  refine xj_v (wc := (wLead h cs (va_up (va_up I 212 i212_3) 213 i213_4) L A Q (va_up (va_up G 2 g2_5) 3 g3_6) J)) (wr := [(h 100, .inr (9, [.ref (h 101), .ref (h 102), .ref (h 103), .ref (h 104), .ref (h 105), .ref (h 106), .ref (h 107), .ref (h 108), .ref (h 109)])), (h 106, .inr (2, [.ref (h 180), .ref (h 185), .ref (h 186), .ref (h 187), .long (L 188)])), (h 180, .inl (cs 4, 4, .inr (.inr (.inr (.inr (fun i => if i < 4 then some (h (i + 181)) else none)))))), (h 181, .inl (cs 1, 4, .inr (.inl ((J 0) 0)))), (h 182, .inl (cs 1, 4, .inr (.inl ((J 0) 1)))), (h 183, .inl (cs 1, 4, .inr (.inl ((J 0) 2)))), (h 184, .inl (cs 1, 4, .inr (.inl ((J 0) 3)))), (h 185, .inl (cs 1, 4, .inr (.inl (Q 185)))), (h 186, .inl (cs 0, 4, .inl (A 186))), (h 187, .inl (cs 1, 4, .inr (.inl (Q 187))))]) hP hD hS hA [1, 2, 3, 4, 5, 6, 7, 8, 9, 10, 11, 12, 13, 23, 24, 25, 26, 27, 28, 29, 30] [0, 14, 15, 16, 17, 18, 19, 20, 21, 22] rfl rfl (by decide +kernel) (by decide +kernel) (va_runV (As := []) (rest := []) ⟨hx, hb, hml, hown, hts⟩ (k_X1_aim l dC dI h cs H.size (va_up (va_up I 212 i212_3) 213 i213_4) L A Q (va_up (va_up G 2 g2_5) 3 g3_6) J R M a hR (by first | assumption | omega | exact hR1) (by first | assumption | omega | exact hR5) hM (by first | assumption | omega | exact hM1) (by first | assumption | omega | exact hM4) ha (by first | assumption | omega | exact ha2)) (cwV 0 hts gX9_ledWord_X1_aim rfl rfl rfl (by decide +kernel) ⟨Nat.le_of_ble_eq_true rfl, Nat.le_of_ble_eq_true rfl⟩) (xpV (wc := (wLead h cs (va_up (va_up I 212 i212_3) 213 i213_4) L A Q (va_up (va_up G 2 g2_5) 3 g3_6) J)) hP hD hK hN [1, 2, 3, 4, 5, 6, 7, 8, 9, 10, 11, 12, 13, 23, 24, 25, 26, 27, 28, 29, 30] rfl (by decide) 1 (ci := 1) rfl rfl _) rfl rfl hl.1 rfl (lv_room (Nat.le_of_ble_eq_true rfl)) dX9_ledWord_11 ⟨Nat.zero_le _, Nat.zero_le _⟩) (fun u_8 H locs hw hP hD hS => ?_)
  obtain ⟨a211_10, hf_11, rfl⟩ := hw
  have hP : va_P (dC, dI) vwCl (wFW h cs (va_up (va_up I 212 i212_3) 213 i213_4) L (va_up A 211 a211_10) Q (va_up (va_up G 2 g2_5) 3 g3_6) J) H := xP_sub hP [0, 10, 11, 12, 13, 14, 15, 16, 17, 18, 19, 20, 21, 22, 1, 2, 3, 4, 5, 6, 7, 8, 9, 23, 24, 25, 26, 27, 28, 29, 30] rfl
  have hD : va_D A0 (wFW h cs (va_up (va_up I 212 i212_3) 213 i213_4) L (va_up A 211 a211_10) Q (va_up (va_up G 2 g2_5) 3 g3_6) J) := hD.sub [0, 10, 11, 12, 13, 14, 15, 16, 17, 18, 19, 20, 21, 22, 1, 2, 3, 4, 5, 6, 7, 8, 9, 23, 24, 25, 26, 27, 28, 29, 30] (by decide +kernel) rfl
  refine lv_aload_n hx hb dX9_ledWord_14 rfl (lv_at hl 0 rfl) ?_
  refine va_get (D := (dC, dI)) (ci := 9) (v := .ref (h 106)) (C := RX9) (T := TX9) (N := 9) hx hb hts hinX9 hown hK hP 0 rfl rfl 5 (by decide) (hts (.fieldLink RX9 51 "MixedWords" "least" "LMixedWords$Least;") (by decide +kernel)) (fun _ h9 => h9) rfl dX9_ledWord_15 ?_
  refine lv_aload_n hx hb dX9_ledWord_18 rfl (lv_at hl 0 rfl) ?_
  refine va_get (D := (dC, dI)) (ci := 9) (v := .ref (h 108)) (C := RX9) (T := TX9) (N := 9) hx hb hts hinX9 hown hK hP 0 rfl rfl 7 (by decide) (hts (.fieldLink RX9 65 "MixedWords" "leader" "LMixedWords$Leader;") (by decide +kernel)) (fun _ h9 => h9) rfl dX9_ledWord_19 ?_
  refine va_get (D := (dC, dI)) (ci := 1) (v := .ref (h 200)) (C := RX1) (T := TX1) (N := 6) hx hb hts hinX1 hown hK hP 1 rfl rfl 1 (by decide) (hts (.fieldLink RX9 240 "MixedWords$Leader" "columns" "[[I") (by decide +kernel)) (fun _ h9 => h9) rfl dX9_ledWord_22 ?_
  refine lv_aload_n hx hb dX9_ledWord_25 rfl (lv_at hl 0 rfl) ?_
  refine va_get (D := (dC, dI)) (ci := 9) (v := .ref (h 108)) (C := RX9) (T := TX9) (N := 9) hx hb hts hinX9 hown hK hP 0 rfl rfl 7 (by decide) (hts (.fieldLink RX9 65 "MixedWords" "leader" "LMixedWords$Leader;") (by decide +kernel)) (fun _ h9 => h9) rfl dX9_ledWord_26 ?_
  refine va_get (D := (dC, dI)) (ci := 1) (v := .ref (h 211)) (C := RX1) (T := TX1) (N := 6) hx hb hts hinX1 hown hK hP 1 rfl rfl 3 (by decide) (hts (.fieldLink RX9 249 "MixedWords$Leader" "target" "[I") (by decide +kernel)) (fun _ h9 => h9) rfl dX9_ledWord_29 ?_
  refine lv_aload_n hx hb dX9_ledWord_32 rfl (lv_at hl 0 rfl) ?_
  refine va_get (D := (dC, dI)) (ci := 9) (v := .ref (h 101)) (C := RX9) (T := TX9) (N := 9) hx hb hts hinX9 hown hK hP 0 rfl rfl 0 (by decide) (hts (.fieldLink RX9 12 "MixedWords" "mix" "LMixedWords$Mix;") (by decide +kernel)) (fun _ h9 => h9) rfl dX9_ledWord_33 ?_
  refine va_get (D := (dC, dI)) (ci := 3) (v := .int (I 120)) (C := RX3) (T := TX3) (N := 6) hx hb hts hinX3 hown hK hP 23 rfl rfl 0 (by decide) (hts (.fieldLink RX9 147 "MixedWords$Mix" "height" "I") (by decide +kernel)) (fun _ h9 => h9) rfl dX9_ledWord_36 ?_
  refine xt_i (y := nI R) (hR) ?_
  refine lv_aload_n hx hb dX9_ledWord_39 rfl (lv_at hl 0 rfl) ?_
  refine va_get (D := (dC, dI)) (ci := 9) (v := .ref (h 101)) (C := RX9) (T := TX9) (N := 9) hx hb hts hinX9 hown hK hP 0 rfl rfl 0 (by decide) (hts (.fieldLink RX9 12 "MixedWords" "mix" "LMixedWords$Mix;") (by decide +kernel)) (fun _ h9 => h9) rfl dX9_ledWord_40 ?_
  refine va_get (D := (dC, dI)) (ci := 3) (v := .int (I 121)) (C := RX3) (T := TX3) (N := 6) hx hb hts hinX3 hown hK hP 23 rfl rfl 1 (by decide) (hts (.fieldLink RX9 106 "MixedWords$Mix" "width" "I") (by decide +kernel)) (fun _ h9 => h9) rfl dX9_ledWord_43 ?_
  refine xt_i (y := nI M) (hM) ?_
  refine xj_v (wc := (wSl h cs (va_up (va_up I 212 i212_3) 213 i213_4) L (va_up A 211 a211_10) Q (va_up (va_up G 2 g2_5) 3 g3_6) J)) (wr := [(h 100, .inr (9, [.ref (h 101), .ref (h 102), .ref (h 103), .ref (h 104), .ref (h 105), .ref (h 106), .ref (h 107), .ref (h 108), .ref (h 109)])), (h 108, .inr (1, [.ref (h 101), .ref (h 200), .ref (h 206), .ref (h 211), .int (i212_3), .int (i213_4)])), (h 206, .inl (cs 3, 4, .inr (.inr (.inr (.inr (fun i => if i < 4 then some (h (i + 207)) else none)))))), (h 207, .inl (cs 0, 4, .inl (g3_6 0))), (h 208, .inl (cs 0, 4, .inl (g3_6 1))), (h 209, .inl (cs 0, 4, .inl (g3_6 2))), (h 210, .inl (cs 0, 4, .inl (g3_6 3))), (h 101, .inr (3, [.int (I 120), .int (I 121), .int (I 122), .int (I 123), .ref (h 130), .ref (h 136)])), (h 130, .inl (cs 3, 5, .inr (.inr (.inr (.inr (fun i => if i < 5 then some (h (i + 131)) else none)))))), (h 131, .inl (cs 0, 4, .inl ((G 0) 0))), (h 132, .inl (cs 0, 4, .inl ((G 0) 1))), (h 133, .inl (cs 0, 4, .inl ((G 0) 2))), (h 134, .inl (cs 0, 4, .inl ((G 0) 3))), (h 135, .inl (cs 0, 4, .inl ((G 0) 4))), (h 136, .inl (cs 0, 5, .inl (A 136)))]) hP hD hS hA [14, 15, 16, 17, 18, 19, 20, 21, 22, 2, 3, 4, 5, 6, 7, 13] [0, 1, 8, 9, 10, 11, 12, 23, 24, 25, 26, 27, 28, 29, 30] rfl rfl (by decide +kernel) (by decide +kernel) (va_runV (As := [.ref (h 200), .ref (h 211), .int (nI R), .int (nI M)]) (rest := []) ⟨hx, hb, hml, hown, hts⟩ (k_X2_solveL l dC dI h cs H.size (va_up (va_up I 212 i212_3) 213 i213_4) L (va_up A 211 a211_10) Q (va_up (va_up G 2 g2_5) 3 g3_6) J R M (by first | assumption | omega | exact hR5) (by first | assumption | omega | exact hM4)) (cwV 4 hts gX9_ledWord_X2_solve rfl rfl rfl (by decide +kernel) ⟨Nat.le_of_ble_eq_true rfl, Nat.le_of_ble_eq_true rfl⟩) (xpV (wc := (wSl h cs (va_up (va_up I 212 i212_3) 213 i213_4) L (va_up A 211 a211_10) Q (va_up (va_up G 2 g2_5) 3 g3_6) J)) hP hD hK hN [14, 15, 16, 17, 18, 19, 20, 21, 22, 2, 3, 4, 5, 6, 7, 13] rfl (by decide) 14 (ci := 2) rfl rfl _) rfl rfl hl.1 rfl (lv_room (Nat.le_of_ble_eq_true rfl)) dX9_ledWord_46 ⟨Nat.zero_le _, Nat.zero_le _⟩) (fun u_12 H locs hw hP hD hS => ?_)
  obtain ⟨l188_14, q185_15, q187_16, j0_17, hf_18, rfl⟩ := hw
  have hP : va_P (dC, dI) vwCl (wFW h cs (va_up (va_up I 212 i212_3) 213 i213_4) (va_up L 188 l188_14) (va_up A 211 a211_10) (va_up (va_up Q 185 q185_15) 187 q187_16) (va_up (va_up G 2 g2_5) 3 g3_6) (va_up J 0 j0_17)) H := xP_sub hP [0, 1, 24, 25, 26, 27, 28, 29, 2, 3, 4, 5, 6, 30, 15, 16, 17, 18, 19, 20, 21, 22, 23, 7, 8, 9, 10, 11, 12, 13, 14] rfl
  have hD : va_D A0 (wFW h cs (va_up (va_up I 212 i212_3) 213 i213_4) (va_up L 188 l188_14) (va_up A 211 a211_10) (va_up (va_up Q 185 q185_15) 187 q187_16) (va_up (va_up G 2 g2_5) 3 g3_6) (va_up J 0 j0_17)) := hD.sub [0, 1, 24, 25, 26, 27, 28, 29, 2, 3, 4, 5, 6, 30, 15, 16, 17, 18, 19, 20, 21, 22, 23, 7, 8, 9, 10, 11, 12, 13, 14] (by decide +kernel) rfl
  refine lv_aload_n hx hb dX9_ledWord_49 rfl (lv_at hl 0 rfl) ?_
  refine va_get (D := (dC, dI)) (ci := 9) (v := .ref (h 106)) (C := RX9) (T := TX9) (N := 9) hx hb hts hinX9 hown hK hP 0 rfl rfl 5 (by decide) (hts (.fieldLink RX9 51 "MixedWords" "least" "LMixedWords$Least;") (by decide +kernel)) (fun _ h9 => h9) rfl dX9_ledWord_50 ?_
  refine va_get (D := (dC, dI)) (ci := 2) (v := .long l188_14) (C := RX2) (T := TX2) (N := 5) hx hb hts hinX2 hown hK hP 14 rfl rfl 4 (by decide) (hts (.fieldLink RX9 192 "MixedWords$Least" "below" "J") (by decide +kernel)) (fun _ h9 => h9) rfl dX9_ledWord_53 ?_
  refine lv_lconst (v := 0) hx hb dX9_ledWord_56 rfl ?_
  refine xl_gt (tgt := 64) hx hb dX9_ledWord_57 dX9_ledWord_58 (by decide) (fun c_57_18 => ?_) (fun c_57_18 => ?_)
  · skip
    refine lv_iconst (v := nI 0) hx hb dX9_ledWord_64 (by decide) ?_
    refine lv_istore_n (lv' := [(1, .int (nI 0)), (0, .ref (h 100))]) hx hb dX9_ledWord_65 rfl hl (by decide) rfl (fun ls hl => ?_)
    refine lv_iconst (v := nI 0) hx hb dX9_ledWord_66 (by decide) ?_
    refine lv_istore_n (lv' := [(2, .int (nI 0)), (1, .int (nI 0)), (0, .ref (h 100))]) hx hb dX9_ledWord_67 rfl hl (by decide) rfl (fun ls hl => ?_)
    have cut_68 : ∀ (nf : Nat) (k : Nat) (z1 : Int32), (M - k) < nf → (k ≤ M) → ∀ (H : Heap) (locs : List Loc) (ls : Array Slot), va_P (dC, dI) vwCl (wFW h cs (va_up (va_up I 212 i212_3) 213 i213_4) (va_up L 188 l188_14) (va_up A 211 a211_10) (va_up (va_up Q 185 q185_15) 187 q187_16) (va_up (va_up G 2 g2_5) 3 g3_6) (va_up J 0 j0_17)) H → va_D A0 (wFW h cs (va_up (va_up I 212 i212_3) 213 i213_4) (va_up L 188 l188_14) (va_up A 211 a211_10) (va_up (va_up Q 185 q185_15) 187 q187_16) (va_up (va_up G 2 g2_5) 3 g3_6) (va_up J 0 j0_17)) → va_S A0 s.heap H locs → lv_has ls 6 [(0, .ref (h 100)), (1, .int z1), (2, .int (nI k))] → W p l e (headSpec wsX9_ledWord ({ frames := 6, cells := 0, slots := 0, locals := 166 })).room s m ([.ref (h 100)] : List Value).toArray below meth c H locs 0 0 (MQ below (va_Qi (fun (r : Int32) (u : CS) => ∃ i212 : Int32, ∃ i213 : Int32, ∃ l188 : Int64, ∃ a211 : Nat → Int32, ∃ q185 : Nat → Int64, ∃ q187 : Nat → Int64, ∃ g2 : Nat → Nat → Int32, ∃ g3 : Nat → Nat → Int32, ∃ j0 : Nat → Nat → Int64, (((I 213 = I 123 ∧ i212 = I 212 ∧ i213 = I 213 ∧ g2 = G 2 ∧ g3 = G 3) ∨ (¬ I 213 = I 123 ∧ i213 = I 123 ∧ ∃ n : Nat, i212 = nI n ∧ n ≤ 2000 ∧ Ln R M (G 0) n g2 g3 ∧ (n = 2000 ∨ NoSt R M g2)))) ∧ u = ((va_up (va_up I 212 i212) 213 i213), (va_up L 188 l188), (va_up A 211 a211), (va_up (va_up Q 185 q185) 187 q187), (va_up (va_up G 2 g2) 3 g3), (va_up J 0 j0))) (xB (dC, dI) (tysA cs) A0 (fun u : CS => wFW h cs u.1 u.2.1 u.2.2.1 u.2.2.2.1 u.2.2.2.2.1 u.2.2.2.2.2)) A0) ([.ref (h 100)] : List Value).toArray s 0 0 A0) (F0 m 68 ls []) := by
      intro nf
      induction nf with
      | zero => intro k z1 hm; exact absurd hm (Nat.not_lt_zero _)
      | succ nf ih_68 =>
        intro k z1 hm_68 hk68 H locs ls hP hD hS hl
        refine lv_iload_n hx hb dX9_ledWord_68 rfl (lv_at hl 2 rfl) ?_
        refine lv_aload_n hx hb dX9_ledWord_69 rfl (lv_at hl 0 rfl) ?_
        refine va_get (D := (dC, dI)) (ci := 9) (v := .ref (h 101)) (C := RX9) (T := TX9) (N := 9) hx hb hts hinX9 hown hK hP 0 rfl rfl 0 (by decide) (hts (.fieldLink RX9 12 "MixedWords" "mix" "LMixedWords$Mix;") (by decide +kernel)) (fun _ h9 => h9) rfl dX9_ledWord_70 ?_
        refine va_get (D := (dC, dI)) (ci := 3) (v := .int (I 121)) (C := RX3) (T := TX3) (N := 6) hx hb hts hinX3 hown hK hP 23 rfl rfl 1 (by decide) (hts (.fieldLink RX9 106 "MixedWords$Mix" "width" "I") (by decide +kernel)) (fun _ h9 => h9) rfl dX9_ledWord_73 ?_
        refine xt_i (y := nI M) (hM) ?_
        refine xn_ge (tgt := 165) hx hb dX9_ledWord_76 (by decide) (by omega) (by omega) (fun c_76_19 => ?_) (fun c_76_19 => ?_)
        · skip
          refine lv_iload_n hx hb dX9_ledWord_165 rfl (lv_at hl 1 rfl) ?_
          exact xr_i (v := z1) hx hb hr hlocks hK hS dX9_ledWord_166 ((va_up (va_up I 212 i212_3) 213 i213_4), (va_up L 188 l188_14), (va_up A 211 a211_10), (va_up (va_up Q 185 q185_15) 187 q187_16), (va_up (va_up G 2 g2_5) 3 g3_6), (va_up J 0 j0_17)) ⟨i212_3, i213_4, l188_14, a211_10, q185_15, q187_16, g2_5, g3_6, j0_17, hlc, rfl⟩ hP hD
        · skip
          refine lv_lconst (v := 0) hx hb dX9_ledWord_79 rfl ?_
          refine lv_lstore_n (lv' := [(3, .long (0 : Int64)), (0, .ref (h 100)), (1, .int z1), (2, .int (nI k))]) hx hb dX9_ledWord_80 rfl hl (by decide) rfl (fun ls hl => ?_)
          refine lv_iconst (v := nI 0) hx hb dX9_ledWord_81 (by decide) ?_
          refine lv_istore (lv' := [(5, .int (nI 0)), (3, .long (0 : Int64)), (0, .ref (h 100)), (1, .int z1), (2, .int (nI k))]) hx hb dX9_ledWord_82 hl (by decide) rfl (fun ls hl => ?_)
          have cut_84 : ∀ (nf : Nat) (c5 : Nat) (z3 : Int64), (M - c5) < nf → (c5 ≤ M) → ∀ (H : Heap) (locs : List Loc) (ls : Array Slot), va_P (dC, dI) vwCl (wFW h cs (va_up (va_up I 212 i212_3) 213 i213_4) (va_up L 188 l188_14) (va_up A 211 a211_10) (va_up (va_up Q 185 q185_15) 187 q187_16) (va_up (va_up G 2 g2_5) 3 g3_6) (va_up J 0 j0_17)) H → va_D A0 (wFW h cs (va_up (va_up I 212 i212_3) 213 i213_4) (va_up L 188 l188_14) (va_up A 211 a211_10) (va_up (va_up Q 185 q185_15) 187 q187_16) (va_up (va_up G 2 g2_5) 3 g3_6) (va_up J 0 j0_17)) → va_S A0 s.heap H locs → lv_has ls 6 [(0, .ref (h 100)), (1, .int z1), (2, .int (nI k)), (3, .long z3), (5, .int (nI c5))] → W p l e (headSpec wsX9_ledWord ({ frames := 6, cells := 0, slots := 0, locals := 166 })).room s m ([.ref (h 100)] : List Value).toArray below meth c H locs 0 0 (MQ below (va_Qi (fun (r : Int32) (u : CS) => ∃ i212 : Int32, ∃ i213 : Int32, ∃ l188 : Int64, ∃ a211 : Nat → Int32, ∃ q185 : Nat → Int64, ∃ q187 : Nat → Int64, ∃ g2 : Nat → Nat → Int32, ∃ g3 : Nat → Nat → Int32, ∃ j0 : Nat → Nat → Int64, (((I 213 = I 123 ∧ i212 = I 212 ∧ i213 = I 213 ∧ g2 = G 2 ∧ g3 = G 3) ∨ (¬ I 213 = I 123 ∧ i213 = I 123 ∧ ∃ n : Nat, i212 = nI n ∧ n ≤ 2000 ∧ Ln R M (G 0) n g2 g3 ∧ (n = 2000 ∨ NoSt R M g2)))) ∧ u = ((va_up (va_up I 212 i212) 213 i213), (va_up L 188 l188), (va_up A 211 a211), (va_up (va_up Q 185 q185) 187 q187), (va_up (va_up G 2 g2) 3 g3), (va_up J 0 j0))) (xB (dC, dI) (tysA cs) A0 (fun u : CS => wFW h cs u.1 u.2.1 u.2.2.1 u.2.2.2.1 u.2.2.2.2.1 u.2.2.2.2.2)) A0) ([.ref (h 100)] : List Value).toArray s 0 0 A0) (F0 m 84 ls []) := by
            intro nf
            induction nf with
            | zero => intro c5 z3 hm; exact absurd hm (Nat.not_lt_zero _)
            | succ nf ih_84 =>
              intro c5 z3 hm_84 hc84 H locs ls hP hD hS hl
              refine lv_iload hx hb dX9_ledWord_84 (lv_at hl 4 rfl) ?_
              refine lv_aload_n hx hb dX9_ledWord_86 rfl (lv_at hl 0 rfl) ?_
              refine va_get (D := (dC, dI)) (ci := 9) (v := .ref (h 101)) (C := RX9) (T := TX9) (N := 9) hx hb hts hinX9 hown hK hP 0 rfl rfl 0 (by decide) (hts (.fieldLink RX9 12 "MixedWords" "mix" "LMixedWords$Mix;") (by decide +kernel)) (fun _ h9 => h9) rfl dX9_ledWord_87 ?_
              refine va_get (D := (dC, dI)) (ci := 3) (v := .int (I 121)) (C := RX3) (T := TX3) (N := 6) hx hb hts hinX3 hown hK hP 23 rfl rfl 1 (by decide) (hts (.fieldLink RX9 106 "MixedWords$Mix" "width" "I") (by decide +kernel)) (fun _ h9 => h9) rfl dX9_ledWord_90 ?_
              refine xt_i (y := nI M) (hM) ?_
              refine xn_ge (tgt := 139) hx hb dX9_ledWord_93 (by decide) (by omega) (by omega) (fun c_93_20 => ?_) (fun c_93_20 => ?_)
              · skip
                refine lv_aload_n hx hb dX9_ledWord_139 rfl (lv_at hl 0 rfl) ?_
                refine va_get (D := (dC, dI)) (ci := 9) (v := .ref (h 101)) (C := RX9) (T := TX9) (N := 9) hx hb hts hinX9 hown hK hP 0 rfl rfl 0 (by decide) (hts (.fieldLink RX9 12 "MixedWords" "mix" "LMixedWords$Mix;") (by decide +kernel)) (fun _ h9 => h9) rfl dX9_ledWord_140 ?_
                refine lv_iload_n hx hb dX9_ledWord_143 rfl (lv_at hl 1 rfl) ?_
                refine lv_lload_n hx hb dX9_ledWord_144 rfl (lv_at hl 3 rfl) ?_
                refine lv_aload_n hx hb dX9_ledWord_145 rfl (lv_at hl 0 rfl) ?_
                refine va_get (D := (dC, dI)) (ci := 9) (v := .ref (h 101)) (C := RX9) (T := TX9) (N := 9) hx hb hts hinX9 hown hK hP 0 rfl rfl 0 (by decide) (hts (.fieldLink RX9 12 "MixedWords" "mix" "LMixedWords$Mix;") (by decide +kernel)) (fun _ h9 => h9) rfl dX9_ledWord_146 ?_
                refine va_get (D := (dC, dI)) (ci := 3) (v := .int (I 122)) (C := RX3) (T := TX3) (N := 6) hx hb hts hinX3 hown hK hP 23 rfl rfl 2 (by decide) (hts (.fieldLink RX9 83 "MixedWords$Mix" "letterCount" "I") (by decide +kernel)) (fun _ h9 => h9) rfl dX9_ledWord_149 ?_
                refine xt_i (y := nI a) (ha) ?_
                refine xj_i (wc := ([] : va_W)) (wr := (wFW h cs (va_up (va_up I 212 i212_3) 213 i213_4) (va_up L 188 l188_14) (va_up A 211 a211_10) (va_up (va_up Q 185 q185_15) 187 q187_16) (va_up (va_up G 2 g2_5) 3 g3_6) (va_up J 0 j0_17))) hP hD hS hA [] [0, 1, 2, 3, 4, 5, 6, 7, 8, 9, 10, 11, 12, 13, 14, 15, 16, 17, 18, 19, 20, 21, 22, 23, 24, 25, 26, 27, 28, 29, 30] rfl rfl (by decide +kernel) (by decide +kernel) (va_runS (As := [.long z3, .int (nI a)]) (rest := [.int z1, .ref (h 101)]) ⟨hx, hb, hml, hown, hts⟩ (k_X9_held l dC dI h cs H.size I L A Q G J z3 (nI a)) (va_cwS 2 hts gX9_ledWord_X9_held rfl rfl rfl (by decide +kernel) ⟨Nat.le_of_ble_eq_true rfl, Nat.le_of_ble_eq_true rfl⟩) (xpS (wc := ([] : va_W)) hP hD hK hN [] rfl (by decide) _) rfl rfl hl.1 rfl (lv_room (Nat.le_of_ble_eq_true rfl)) dX9_ledWord_152 ⟨Nat.zero_le _, Nat.zero_le _⟩) (fun r_23 u_22 H locs hw hP hD hS => ?_)
                obtain ⟨hf_24, rfl⟩ := hw
                have hP : va_P (dC, dI) vwCl (wFW h cs (va_up (va_up I 212 i212_3) 213 i213_4) (va_up L 188 l188_14) (va_up A 211 a211_10) (va_up (va_up Q 185 q185_15) 187 q187_16) (va_up (va_up G 2 g2_5) 3 g3_6) (va_up J 0 j0_17)) H := hP
                have hD : va_D A0 (wFW h cs (va_up (va_up I 212 i212_3) 213 i213_4) (va_up L 188 l188_14) (va_up A 211 a211_10) (va_up (va_up Q 185 q185_15) 187 q187_16) (va_up (va_up G 2 g2_5) 3 g3_6) (va_up J 0 j0_17)) := hD
                obtain rfl := hf_24
                refine xj_i (wc := (wMix h cs (va_up (va_up I 212 i212_3) 213 i213_4) (va_up L 188 l188_14) (va_up A 211 a211_10) (va_up (va_up Q 185 q185_15) 187 q187_16) (va_up (va_up G 2 g2_5) 3 g3_6) (va_up J 0 j0_17))) (wr := [(h 100, .inr (9, [.ref (h 101), .ref (h 102), .ref (h 103), .ref (h 104), .ref (h 105), .ref (h 106), .ref (h 107), .ref (h 108), .ref (h 109)])), (h 108, .inr (1, [.ref (h 101), .ref (h 200), .ref (h 206), .ref (h 211), .int (i212_3), .int (i213_4)])), (h 200, .inl (cs 3, 5, .inr (.inr (.inr (.inr (fun i => if i < 5 then some (h (i + 201)) else none)))))), (h 201, .inl (cs 0, 4, .inl (g2_5 0))), (h 202, .inl (cs 0, 4, .inl (g2_5 1))), (h 203, .inl (cs 0, 4, .inl (g2_5 2))), (h 204, .inl (cs 0, 4, .inl (g2_5 3))), (h 205, .inl (cs 0, 4, .inl (g2_5 4))), (h 206, .inl (cs 3, 4, .inr (.inr (.inr (.inr (fun i => if i < 4 then some (h (i + 207)) else none)))))), (h 207, .inl (cs 0, 4, .inl (g3_6 0))), (h 208, .inl (cs 0, 4, .inl (g3_6 1))), (h 209, .inl (cs 0, 4, .inl (g3_6 2))), (h 210, .inl (cs 0, 4, .inl (g3_6 3))), (h 211, .inl (cs 0, 5, .inl a211_10)), (h 106, .inr (2, [.ref (h 180), .ref (h 185), .ref (h 186), .ref (h 187), .long (l188_14)])), (h 180, .inl (cs 4, 4, .inr (.inr (.inr (.inr (fun i => if i < 4 then some (h (i + 181)) else none)))))), (h 181, .inl (cs 1, 4, .inr (.inl (j0_17 0)))), (h 182, .inl (cs 1, 4, .inr (.inl (j0_17 1)))), (h 183, .inl (cs 1, 4, .inr (.inl (j0_17 2)))), (h 184, .inl (cs 1, 4, .inr (.inl (j0_17 3)))), (h 185, .inl (cs 1, 4, .inr (.inl q185_15))), (h 186, .inl (cs 0, 4, .inl (A 186))), (h 187, .inl (cs 1, 4, .inr (.inl q187_16)))]) hP hD hS hA [23, 24, 25, 26, 27, 28, 29, 30] [0, 1, 2, 3, 4, 5, 6, 7, 8, 9, 10, 11, 12, 13, 14, 15, 16, 17, 18, 19, 20, 21, 22] rfl rfl (by decide +kernel) (by decide +kernel) (va_runV (As := [.int z1, .int (hdF z3 (nI a))]) (rest := []) ⟨hx, hb, hml, hown, hts⟩ (k_X3_follow l dC dI h cs H.size (va_up (va_up I 212 i212_3) 213 i213_4) (va_up L 188 l188_14) (va_up A 211 a211_10) (va_up (va_up Q 185 q185_15) 187 q187_16) (va_up (va_up G 2 g2_5) 3 g3_6) (va_up J 0 j0_17) z1 (hdF z3 (nI a)) a ha (by first | assumption | omega | exact ha2)) (cwV 2 hts gX9_ledWord_X3_follow rfl rfl rfl (by decide +kernel) ⟨Nat.le_of_ble_eq_true rfl, Nat.le_of_ble_eq_true rfl⟩) (xpV (wc := (wMix h cs (va_up (va_up I 212 i212_3) 213 i213_4) (va_up L 188 l188_14) (va_up A 211 a211_10) (va_up (va_up Q 185 q185_15) 187 q187_16) (va_up (va_up G 2 g2_5) 3 g3_6) (va_up J 0 j0_17))) hP hD hK hN [23, 24, 25, 26, 27, 28, 29, 30] rfl (by decide) 23 (ci := 3) rfl rfl _) rfl rfl hl.1 rfl (lv_room (Nat.le_of_ble_eq_true rfl)) dX9_ledWord_155 ⟨Nat.zero_le _, Nat.zero_le _⟩) (fun r_26 u_25 H locs hw hP hD hS => ?_)
                obtain ⟨hf_27, rfl⟩ := hw
                have hP : va_P (dC, dI) vwCl (wFW h cs (va_up (va_up I 212 i212_3) 213 i213_4) (va_up L 188 l188_14) (va_up A 211 a211_10) (va_up (va_up Q 185 q185_15) 187 q187_16) (va_up (va_up G 2 g2_5) 3 g3_6) (va_up J 0 j0_17)) H := hP
                have hD : va_D A0 (wFW h cs (va_up (va_up I 212 i212_3) 213 i213_4) (va_up L 188 l188_14) (va_up A 211 a211_10) (va_up (va_up Q 185 q185_15) 187 q187_16) (va_up (va_up G 2 g2_5) 3 g3_6) (va_up J 0 j0_17)) := hD
                refine lv_topi (fun x_28 ex_28 => ?_)
                refine lv_istore_n (lv' := [(1, .int x_28), (0, .ref (h 100)), (2, .int (nI k)), (3, .long z3), (5, .int (nI c5))]) hx hb dX9_ledWord_158 rfl hl (by decide) rfl (fun ls hl => ?_)
                refine lv_iinc (v := nI (k + 1)) (lv' := [(2, .int (nI (k + 1))), (1, .int x_28), (0, .ref (h 100)), (3, .long z3), (5, .int (nI c5))]) hx hb dX9_ledWord_159 hl (k := 2) rfl (nI_1 _) (by decide) rfl (fun ls hl => ?_)
                refine lv_goto (tgt := 68) hx hb dX9_ledWord_162 (by decide) ?_
                exact ih_68 (k + 1) x_28 (by omega) (by first | assumption | omega) _ _ _ hP hD hS (lv_sub hl [2, 1, 0] rfl)
              · skip
                refine lv_lload_n hx hb dX9_ledWord_96 rfl (lv_at hl 3 rfl) ?_
                refine lv_aload_n hx hb dX9_ledWord_97 rfl (lv_at hl 0 rfl) ?_
                refine va_get (D := (dC, dI)) (ci := 9) (v := .ref (h 108)) (C := RX9) (T := TX9) (N := 9) hx hb hts hinX9 hown hK hP 0 rfl rfl 7 (by decide) (hts (.fieldLink RX9 65 "MixedWords" "leader" "LMixedWords$Leader;") (by decide +kernel)) (fun _ h9 => h9) rfl dX9_ledWord_98 ?_
                refine va_get (D := (dC, dI)) (ci := 1) (v := .ref (h 206)) (C := RX1) (T := TX1) (N := 6) hx hb hts hinX1 hown hK hP 1 rfl rfl 2 (by decide) (hts (.fieldLink RX9 243 "MixedWords$Leader" "steps" "[[I") (by decide +kernel)) (fun _ h9 => h9) rfl dX9_ledWord_101 ?_
                refine lv_iload_n hx hb dX9_ledWord_104 rfl (lv_at hl 2 rfl) ?_
                refine xa_aald (b := h (k + 207)) hx hb hK hP 8 3 rfl rfl rfl (by omega) (by decide) (if_pos (by omega)) dX9_ledWord_105 ?_
                refine lv_iload hx hb dX9_ledWord_106 (lv_at hl 4 rfl) ?_
                refine xa_iald hx hb hK hP (9 + k) 0 (wFW_atG3 (by omega)) rfl (by omega) (by decide) dX9_ledWord_108 ?_
                refine lv_i2l (v := ((g3_6 k) c5).toInt64) hx hb dX9_ledWord_109 rfl ?_
                refine lv_aload_n hx hb dX9_ledWord_110 rfl (lv_at hl 0 rfl) ?_
                refine va_get (D := (dC, dI)) (ci := 9) (v := .ref (h 106)) (C := RX9) (T := TX9) (N := 9) hx hb hts hinX9 hown hK hP 0 rfl rfl 5 (by decide) (hts (.fieldLink RX9 51 "MixedWords" "least" "LMixedWords$Least;") (by decide +kernel)) (fun _ h9 => h9) rfl dX9_ledWord_111 ?_
                refine va_get (D := (dC, dI)) (ci := 2) (v := .ref (h 187)) (C := RX2) (T := TX2) (N := 5) hx hb hts hinX2 hown hK hP 14 rfl rfl 3 (by decide) (hts (.fieldLink RX9 196 "MixedWords$Least" "above" "[J") (by decide +kernel)) (fun _ h9 => h9) rfl dX9_ledWord_114 ?_
                refine lv_iload hx hb dX9_ledWord_117 (lv_at hl 4 rfl) ?_
                refine xa_lald hx hb hK hP 22 1 rfl rfl (by omega) (by decide) dX9_ledWord_119 ?_
                refine lv_aload_n hx hb dX9_ledWord_120 rfl (lv_at hl 0 rfl) ?_
                refine va_get (D := (dC, dI)) (ci := 9) (v := .ref (h 106)) (C := RX9) (T := TX9) (N := 9) hx hb hts hinX9 hown hK hP 0 rfl rfl 5 (by decide) (hts (.fieldLink RX9 51 "MixedWords" "least" "LMixedWords$Least;") (by decide +kernel)) (fun _ h9 => h9) rfl dX9_ledWord_121 ?_
                refine va_get (D := (dC, dI)) (ci := 2) (v := .long l188_14) (C := RX2) (T := TX2) (N := 5) hx hb hts hinX2 hown hK hP 14 rfl rfl 4 (by decide) (hts (.fieldLink RX9 192 "MixedWords$Least" "below" "J") (by decide +kernel)) (fun _ h9 => h9) rfl dX9_ledWord_124 ?_
                refine xj_l (wc := ([] : va_W)) (wr := (wFW h cs (va_up (va_up I 212 i212_3) 213 i213_4) (va_up L 188 l188_14) (va_up A 211 a211_10) (va_up (va_up Q 185 q185_15) 187 q187_16) (va_up (va_up G 2 g2_5) 3 g3_6) (va_up J 0 j0_17))) hP hD hS hA [] [0, 1, 2, 3, 4, 5, 6, 7, 8, 9, 10, 11, 12, 13, 14, 15, 16, 17, 18, 19, 20, 21, 22, 23, 24, 25, 26, 27, 28, 29, 30] rfl rfl (by decide +kernel) (by decide +kernel) (va_runS (As := [.long (q187_16 c5), .long l188_14]) (rest := [.long (((g3_6 k) c5).toInt64), .long z3]) ⟨hx, hb, hml, hown, hts⟩ (k_X9_nearestHalf l dC dI h cs H.size I L A Q G J (q187_16 c5) l188_14) (va_cwS 2 hts gX9_ledWord_X9_nearestHalf rfl rfl rfl (by decide +kernel) ⟨Nat.le_of_ble_eq_true rfl, Nat.le_of_ble_eq_true rfl⟩) (xpS (wc := ([] : va_W)) hP hD hK hN [] rfl (by decide) _) rfl rfl hl.1 rfl (lv_room (Nat.le_of_ble_eq_true rfl)) dX9_ledWord_127 ⟨Nat.zero_le _, Nat.zero_le _⟩) (fun r_30 u_29 H locs hw hP hD hS => ?_)
                obtain ⟨hf_31, rfl⟩ := hw
                have hP : va_P (dC, dI) vwCl (wFW h cs (va_up (va_up I 212 i212_3) 213 i213_4) (va_up L 188 l188_14) (va_up A 211 a211_10) (va_up (va_up Q 185 q185_15) 187 q187_16) (va_up (va_up G 2 g2_5) 3 g3_6) (va_up J 0 j0_17)) H := hP
                have hD : va_D A0 (wFW h cs (va_up (va_up I 212 i212_3) 213 i213_4) (va_up L 188 l188_14) (va_up A 211 a211_10) (va_up (va_up Q 185 q185_15) 187 q187_16) (va_up (va_up G 2 g2_5) 3 g3_6) (va_up J 0 j0_17)) := hD
                obtain rfl := hf_31
                refine lv_lmul hx hb dX9_ledWord_130 ?_
                refine lv_ladd hx hb dX9_ledWord_131 ?_
                refine lv_topl (fun x_32 ex_32 => ?_)
                refine lv_lstore_n (lv' := [(3, .long x_32), (0, .ref (h 100)), (1, .int z1), (2, .int (nI k)), (5, .int (nI c5))]) hx hb dX9_ledWord_132 rfl hl (by decide) rfl (fun ls hl => ?_)
                refine lv_iinc (v := nI (c5 + 1)) (lv' := [(5, .int (nI (c5 + 1))), (3, .long x_32), (0, .ref (h 100)), (1, .int z1), (2, .int (nI k))]) hx hb dX9_ledWord_133 hl (k := 4) rfl (nI_1 _) (by decide) rfl (fun ls hl => ?_)
                refine lv_goto (tgt := 84) hx hb dX9_ledWord_136 (by decide) ?_
                exact ih_84 (c5 + 1) x_32 (by omega) (by first | assumption | omega) _ _ _ hP hD hS (lv_sub hl [2, 3, 4, 1, 0] rfl)
          exact cut_84 _ 0 (0 : Int64) (Nat.lt_succ_self _) (by first | assumption | omega) _ _ _ hP hD hS (lv_sub hl [2, 3, 4, 1, 0] rfl)
    exact cut_68 _ 0 (nI 0) (Nat.lt_succ_self _) (by first | assumption | omega) _ _ _ hP hD hS (lv_sub hl [2, 1, 0] rfl)
  · skip
    refine lv_bipush (v := (-2)) hx hb dX9_ledWord_61 (by decide) ?_
    exact xr_i (v := (-2)) hx hb hr hlocks hK hS dX9_ledWord_63 ((va_up (va_up I 212 i212_3) 213 i213_4), (va_up L 188 l188_14), (va_up A 211 a211_10), (va_up (va_up Q 185 q185_15) 187 q187_16), (va_up (va_up G 2 g2_5) 3 g3_6), (va_up J 0 j0_17)) ⟨i212_3, i213_4, l188_14, a211_10, q185_15, q187_16, g2_5, g3_6, j0_17, hlc, rfl⟩ hP hD
set_option maxRecDepth 20000 in
theorem ggX9_soft_X3_hasColumn : GoodIn wsX9_soft wsX3_hasColumn := goodIn_r _ [8, 9, 65, 66, 67, 68, 69, 70] rfl (by decide +kernel)
set_option maxRecDepth 20000 in
theorem gX9_soft_X3_hasColumn : GoodIn wsX9_soft (wsV RX9 95 RX3 yX3_hasColumn wsX3_hasColumn) := goodIn_app (goodIn_of _ (by decide +kernel)) ggX9_soft_X3_hasColumn
set_option maxRecDepth 20000 in
theorem ggX9_soft_X3_bitsOfLetter : GoodIn wsX9_soft wsX3_bitsOfLetter := goodIn_r _ [13, 14, 65, 66, 67, 68, 69, 70] rfl (by decide +kernel)
set_option maxRecDepth 20000 in
theorem gX9_soft_X3_bitsOfLetter : GoodIn wsX9_soft (wsV RX9 166 RX3 yX3_bitsOfLetter wsX3_bitsOfLetter) := goodIn_app (goodIn_of _ (by decide +kernel)) ggX9_soft_X3_bitsOfLetter
set_option maxRecDepth 20000 in
theorem ggX9_soft_X8_leastWith : GoodIn wsX9_soft wsX8_leastWith := goodIn_r _ [19, 20, 21, 22, 23, 24, 25, 26, 27, 28, 29, 18, 30, 31, 32, 33, 34, 35, 7, 36, 9, 37, 11, 12, 13, 14, 38, 39, 40, 41, 42, 43, 44, 45, 46, 47, 48, 49, 50, 51, 52, 53, 54, 55, 71, 72, 73, 74, 75, 76, 65, 66, 67, 68, 69, 70] rfl (by decide +kernel)
set_option maxRecDepth 20000 in
theorem gX9_soft_X8_leastWith : GoodIn wsX9_soft (wsV RX9 170 RX8 yX8_leastWith wsX8_leastWith) := goodIn_app (goodIn_of _ (by decide +kernel)) ggX9_soft_X8_leastWith
theorem bdX9_soft_0 : (decode cX9_soft 0 = .ok (.aload_n 0, 1)) ∧ (decode cX9_soft 1 = .ok (.getfield 12, 3)) ∧ (decode cX9_soft 4 = .ok (.iload_n 1, 1)) ∧ (decode cX9_soft 5 = .ok (.invokevirtual 95, 3)) ∧ (decode cX9_soft 8 = .ok (.ifCond .eq 18, 3)) ∧ (decode cX9_soft 11 = .ok (.iload_n 2, 1)) ∧ (decode cX9_soft 12 = .ok (.ifCond .lt 14, 3)) ∧ (decode cX9_soft 15 = .ok (.iload_n 2, 1)) ∧ (decode cX9_soft 16 = .ok (.aload_n 0, 1)) ∧ (decode cX9_soft 17 = .ok (.getfield 12, 3)) ∧ (decode cX9_soft 20 = .ok (.invokevirtual 166, 3)) ∧ (decode cX9_soft 23 = .ok (.if_icmp .lt 6, 3)) ∧ (decode cX9_soft 26 = .ok (.ldc 169, 2)) ∧ (decode cX9_soft 28 = .ok (.ireturn, 1)) ∧ (decode cX9_soft 29 = .ok (.aload_n 0, 1)) ∧ (decode cX9_soft 30 = .ok (.getfield 44, 3)) := by decide +kernel
theorem dX9_soft_0 : decode cX9_soft 0 = .ok (.aload_n 0, 1) := bdX9_soft_0.1
theorem dX9_soft_1 : decode cX9_soft 1 = .ok (.getfield 12, 3) := bdX9_soft_0.2.1
theorem dX9_soft_4 : decode cX9_soft 4 = .ok (.iload_n 1, 1) := bdX9_soft_0.2.2.1
theorem dX9_soft_5 : decode cX9_soft 5 = .ok (.invokevirtual 95, 3) := bdX9_soft_0.2.2.2.1
theorem dX9_soft_8 : decode cX9_soft 8 = .ok (.ifCond .eq 18, 3) := bdX9_soft_0.2.2.2.2.1
theorem dX9_soft_11 : decode cX9_soft 11 = .ok (.iload_n 2, 1) := bdX9_soft_0.2.2.2.2.2.1
theorem dX9_soft_12 : decode cX9_soft 12 = .ok (.ifCond .lt 14, 3) := bdX9_soft_0.2.2.2.2.2.2.1
theorem dX9_soft_15 : decode cX9_soft 15 = .ok (.iload_n 2, 1) := bdX9_soft_0.2.2.2.2.2.2.2.1
theorem dX9_soft_16 : decode cX9_soft 16 = .ok (.aload_n 0, 1) := bdX9_soft_0.2.2.2.2.2.2.2.2.1
theorem dX9_soft_17 : decode cX9_soft 17 = .ok (.getfield 12, 3) := bdX9_soft_0.2.2.2.2.2.2.2.2.2.1
theorem dX9_soft_20 : decode cX9_soft 20 = .ok (.invokevirtual 166, 3) := bdX9_soft_0.2.2.2.2.2.2.2.2.2.2.1
theorem dX9_soft_23 : decode cX9_soft 23 = .ok (.if_icmp .lt 6, 3) := bdX9_soft_0.2.2.2.2.2.2.2.2.2.2.2.1
theorem dX9_soft_26 : decode cX9_soft 26 = .ok (.ldc 169, 2) := bdX9_soft_0.2.2.2.2.2.2.2.2.2.2.2.2.1
theorem dX9_soft_28 : decode cX9_soft 28 = .ok (.ireturn, 1) := bdX9_soft_0.2.2.2.2.2.2.2.2.2.2.2.2.2.1
theorem dX9_soft_29 : decode cX9_soft 29 = .ok (.aload_n 0, 1) := bdX9_soft_0.2.2.2.2.2.2.2.2.2.2.2.2.2.2.1
theorem dX9_soft_30 : decode cX9_soft 30 = .ok (.getfield 44, 3) := bdX9_soft_0.2.2.2.2.2.2.2.2.2.2.2.2.2.2.2
theorem bdX9_soft_33 : (decode cX9_soft 33 = .ok (.iload_n 1, 1)) ∧ (decode cX9_soft 34 = .ok (.iload_n 2, 1)) ∧ (decode cX9_soft 35 = .ok (.iconst 1, 1)) ∧ (decode cX9_soft 36 = .ok (.invokevirtual 170, 3)) ∧ (decode cX9_soft 39 = .ok (.aload_n 0, 1)) ∧ (decode cX9_soft 40 = .ok (.getfield 44, 3)) ∧ (decode cX9_soft 43 = .ok (.iload_n 1, 1)) ∧ (decode cX9_soft 44 = .ok (.iload_n 2, 1)) ∧ (decode cX9_soft 45 = .ok (.iconst 0, 1)) ∧ (decode cX9_soft 46 = .ok (.invokevirtual 170, 3)) ∧ (decode cX9_soft 49 = .ok (.isub, 1)) ∧ (decode cX9_soft 50 = .ok (.ireturn, 1)) := by decide +kernel
theorem dX9_soft_33 : decode cX9_soft 33 = .ok (.iload_n 1, 1) := bdX9_soft_33.1
theorem dX9_soft_34 : decode cX9_soft 34 = .ok (.iload_n 2, 1) := bdX9_soft_33.2.1
theorem dX9_soft_35 : decode cX9_soft 35 = .ok (.iconst 1, 1) := bdX9_soft_33.2.2.1
theorem dX9_soft_36 : decode cX9_soft 36 = .ok (.invokevirtual 170, 3) := bdX9_soft_33.2.2.2.1
theorem dX9_soft_39 : decode cX9_soft 39 = .ok (.aload_n 0, 1) := bdX9_soft_33.2.2.2.2.1
theorem dX9_soft_40 : decode cX9_soft 40 = .ok (.getfield 44, 3) := bdX9_soft_33.2.2.2.2.2.1
theorem dX9_soft_43 : decode cX9_soft 43 = .ok (.iload_n 1, 1) := bdX9_soft_33.2.2.2.2.2.2.1
theorem dX9_soft_44 : decode cX9_soft 44 = .ok (.iload_n 2, 1) := bdX9_soft_33.2.2.2.2.2.2.2.1
theorem dX9_soft_45 : decode cX9_soft 45 = .ok (.iconst 0, 1) := bdX9_soft_33.2.2.2.2.2.2.2.2.1
theorem dX9_soft_46 : decode cX9_soft 46 = .ok (.invokevirtual 170, 3) := bdX9_soft_33.2.2.2.2.2.2.2.2.2.1
theorem dX9_soft_49 : decode cX9_soft 49 = .ok (.isub, 1) := bdX9_soft_33.2.2.2.2.2.2.2.2.2.2.1
theorem dX9_soft_50 : decode cX9_soft 50 = .ok (.ireturn, 1) := bdX9_soft_33.2.2.2.2.2.2.2.2.2.2.2
set_option maxHeartbeats 4000000 in
set_option maxRecDepth 100000 in
theorem k_X9_soft (l : Launch) (dC : Nat → ClassId) (dI : Nat → Nat → Nat) (h : Nat → Nat) (cs : Nat → ClassId) (sz : Nat) (I : Nat → Int32) (L : Nat → Int64) (A : Nat → Nat → Int32) (Q : Nat → Nat → Int64) (G : Nat → Nat → Nat → Int32) (J : Nat → Nat → Nat → Int64) (x y : Int32) (R M a : Nat) (hR : I 120 = nI R) (hR1 : 1 ≤ R) (hR5 : R ≤ 5) (hM : I 121 = nI M) (hM1 : 1 ≤ M) (hM4 : M ≤ 4) (ha : I 122 = nI a) (ha2 : a = 2 ∨ a = 4) : Met l yX9_soft wsX9_soft ({ frames := 5, cells := 0, slots := 0, locals := 113 }) (va_Pc [.ref (h 100), .int x, .int y] (xPre (dC, dI) (wFO h cs I L A Q G J) (tysA cs) sz)) (va_Qi (fun (r : Int32) (u : CS) => ∃ i173 : Int32, ∃ a170 : Nat → Int32, ((∃ i j : Nat, i < M ∧ j < a / 2 ∧ x = nI i ∧ y = nI j ∧ ((I 173 = I 123 ∧ a170 = A 170 ∧ i173 = I 173) ∨ (¬ I 173 = I 123 ∧ i173 = I 123 ∧ ∀ t : Nat, t < a ^ M → a170 t = offC (A 136) (G 0) a M t R)) ∧ r = lwF a170 (bitC a M i j) 1 (a ^ M) - lwF a170 (bitC a M i j) 0 (a ^ M)) ∨ (r = -100000001 ∧ (∀ i j : Nat, i < M → j < a / 2 → x = nI i → y = nI j → False) ∧ a170 = A 170 ∧ i173 = I 173)) ∧ u = ((va_up I 173 i173), L, (va_up A 170 a170), Q, G, J)) (xB (dC, dI) (tysA cs) (va_A (wFO h cs I L A Q G J) sz) (fun u : CS => wFO h cs u.1 u.2.1 u.2.2.1 u.2.2.2.1 u.2.2.2.2.1 u.2.2.2.2.2)) (va_A (wFO h cs I L A Q G J) sz)) 0 0 (va_A (wFO h cs I L A Q G J) sz) := by
  refine Met.ofW (cc := cX9_soft) (maxL := 3) (ret := (some .int)) (by decide) rfl ?_
  intro p e s m args below meth c s₁ B hml hv
  obtain ⟨rfl, hsz, hP, hK, hD0, hN⟩ := hv
  have hx := B.exec
  have hb := B.bytes
  have hr := B.returns
  have hts := atoms_spec (ws := wsX9_soft) B.pre
  have hown : s.vm.findClass RX9 = some m.cls := findClass_of_methodNamed B.named
  have hlocks := B.notSynchronized
  subst hsz
  have hD := hD0.self (sz := s.heap.size)
  generalize hAe : va_A (wFO h cs I L A Q G J) s.heap.size = A0 at hD ⊢
  have hA : ∀ q : Nat, s.heap.size ≤ q → A0 q := fun q h => by rw [← hAe]; exact Or.inr h
  have hl := lv_entry ([.ref (h 100), .int x, .int y]) (n := 3) (Nat.le_of_ble_eq_true rfl)
  rw [lg_entry_eq]
  generalize (lg_sl ([.ref (h 100), .int x, .int y]) ++ List.replicate (3 - (lg_sl ([.ref (h 100), .int x, .int y])).length) Slot.unset).toArray = ls at hl ⊢
  have hl : lv_has ls 3 [(0, .ref (h 100)), (1, .int x), (2, .int y)] := hl
  generalize hH : s.heap = H at hP ⊢
  have hS : va_S A0 s.heap H [] := by rw [← hH]; exact va_S.rf
  have hinX9 : ∀ w ∈ wsX90, w ∈ wsX9_soft := by decide +kernel
  have hpw : a ^ M ≤ 256 := pw_le ha2 hM4
  refine lv_aload_n hx hb dX9_soft_0 rfl (lv_at hl 0 rfl) ?_
  refine va_get (D := (dC, dI)) (ci := 9) (v := .ref (h 101)) (C := RX9) (T := TX9) (N := 9) hx hb hts hinX9 hown hK hP 0 rfl rfl 0 (by decide) (hts (.fieldLink RX9 12 "MixedWords" "mix" "LMixedWords$Mix;") (by decide +kernel)) (fun _ h9 => h9) rfl dX9_soft_1 ?_
  refine lv_iload_n hx hb dX9_soft_4 rfl (lv_at hl 1 rfl) ?_
  refine xj_i (wc := (wMix h cs I L A Q G J)) (wr := [(h 100, .inr (9, [.ref (h 101), .ref (h 102), .ref (h 103), .ref (h 104), .ref (h 105), .ref (h 106), .ref (h 107), .ref (h 108), .ref (h 109)])), (h 105, .inr (8, [.ref (h 101), .ref (h 170), .ref (h 171), .ref (h 172), .int (I 173), .int (I 174)])), (h 170, .inl (cs 0, 256, .inl (A 170))), (h 171, .inl (cs 0, 256, .inl (A 171))), (h 172, .inl (cs 0, 256, .inl (A 172)))]) hP hD hS hA [5, 6, 7, 8, 9, 10, 11, 12] [0, 1, 2, 3, 4] rfl rfl (by decide +kernel) (by decide +kernel) (va_runV (As := [.int x]) (rest := []) ⟨hx, hb, hml, hown, hts⟩ (k_X3_hasColumn l dC dI h cs H.size I L A Q G J x M hM (by first | assumption | omega | exact hM1) (by first | assumption | omega | exact hM4)) (cwV 1 hts gX9_soft_X3_hasColumn rfl rfl rfl (by decide +kernel) ⟨Nat.le_of_ble_eq_true rfl, Nat.le_of_ble_eq_true rfl⟩) (xpV (wc := (wMix h cs I L A Q G J)) hP hD hK hN [5, 6, 7, 8, 9, 10, 11, 12] rfl (by decide) 5 (ci := 3) rfl rfl _) rfl rfl hl.1 rfl (lv_room (Nat.le_of_ble_eq_true rfl)) dX9_soft_5 ⟨Nat.zero_le _, Nat.zero_le _⟩) (fun r_2 u_1 H locs hw hP hD hS => ?_)
  obtain ⟨hf_3, rfl⟩ := hw
  have hP : va_P (dC, dI) vwCl (wFO h cs I L A Q G J) H := hP
  have hD : va_D A0 (wFO h cs I L A Q G J) := hD
  rcases hf_3 with ⟨rfl, i_4, hi_5, hx_6⟩ | ⟨rfl, hn_7⟩
  · skip
    rw [hx_6] at hl
    refine lv_if_eq (tgt := 26) hx hb dX9_soft_8 (by decide) (fun c9 => False.elim (by revert c9; decide +kernel)) (fun _ => ?_)
    refine lv_iload_n hx hb dX9_soft_11 rfl (lv_at hl 2 rfl) ?_
    refine lv_if_lt (tgt := 26) hx hb dX9_soft_12 (by decide) (fun c_12_7 => ?_) (fun c_12_7 => ?_)
    · skip
      refine lv_ldc (v := (-100000001)) hx hb hown (hts (.constant RX9 169 (-100000001)) (by decide +kernel)) dX9_soft_26 ?_
      exact xr_i (v := (-100000001 : Int32)) hx hb hr hlocks hK hS dX9_soft_28 ((va_up I 173 (I 173)), L, (va_up A 170 (A 170)), Q, G, J) ⟨(I 173), (A 170), (Or.inr ⟨rfl, fun i j h1 h2 h3 h4 => (by first | exact rg_no1 (by omega) (by assumption) j h2 h4 | exact rg_no2 (by omega) (Int32.not_lt.mp (by assumption)) j h2 h4), rfl, rfl⟩), rfl⟩ hP hD
    · skip
      refine lv_iload_n hx hb dX9_soft_15 rfl (lv_at hl 2 rfl) ?_
      refine lv_aload_n hx hb dX9_soft_16 rfl (lv_at hl 0 rfl) ?_
      refine va_get (D := (dC, dI)) (ci := 9) (v := .ref (h 101)) (C := RX9) (T := TX9) (N := 9) hx hb hts hinX9 hown hK hP 0 rfl rfl 0 (by decide) (hts (.fieldLink RX9 12 "MixedWords" "mix" "LMixedWords$Mix;") (by decide +kernel)) (fun _ h9 => h9) rfl dX9_soft_17 ?_
      refine xj_i (wc := (wMix h cs I L A Q G J)) (wr := [(h 100, .inr (9, [.ref (h 101), .ref (h 102), .ref (h 103), .ref (h 104), .ref (h 105), .ref (h 106), .ref (h 107), .ref (h 108), .ref (h 109)])), (h 105, .inr (8, [.ref (h 101), .ref (h 170), .ref (h 171), .ref (h 172), .int (I 173), .int (I 174)])), (h 170, .inl (cs 0, 256, .inl (A 170))), (h 171, .inl (cs 0, 256, .inl (A 171))), (h 172, .inl (cs 0, 256, .inl (A 172)))]) hP hD hS hA [5, 6, 7, 8, 9, 10, 11, 12] [0, 1, 2, 3, 4] rfl rfl (by decide +kernel) (by decide +kernel) (va_runV (As := []) (rest := [.int y]) ⟨hx, hb, hml, hown, hts⟩ (k_X3_bitsOfLetter l dC dI h cs H.size I L A Q G J a ha (by first | assumption | omega | exact ha2)) (cwV 0 hts gX9_soft_X3_bitsOfLetter rfl rfl rfl (by decide +kernel) ⟨Nat.le_of_ble_eq_true rfl, Nat.le_of_ble_eq_true rfl⟩) (xpV (wc := (wMix h cs I L A Q G J)) hP hD hK hN [5, 6, 7, 8, 9, 10, 11, 12] rfl (by decide) 5 (ci := 3) rfl rfl _) rfl rfl hl.1 rfl (lv_room (Nat.le_of_ble_eq_true rfl)) dX9_soft_20 ⟨Nat.zero_le _, Nat.zero_le _⟩) (fun r_10 u_9 H locs hw hP hD hS => ?_)
      obtain ⟨hf_11, rfl⟩ := hw
      have hP : va_P (dC, dI) vwCl (wFO h cs I L A Q G J) H := hP
      have hD : va_D A0 (wFO h cs I L A Q G J) := hD
      obtain rfl := hf_11
      refine lv_icmp_lt (tgt := 29) hx hb dX9_soft_23 (by decide) (fun c_23_11 => ?_) (fun c_23_11 => ?_)
      · skip
        obtain ⟨b9, hb9, hxb9⟩ := rg_yes (x := y) (n := a / 2) (by omega) (by assumption) (Int32.not_le.mpr (by assumption))
        rw [hxb9] at hl
        refine lv_aload_n hx hb dX9_soft_29 rfl (lv_at hl 0 rfl) ?_
        refine va_get (D := (dC, dI)) (ci := 9) (v := .ref (h 105)) (C := RX9) (T := TX9) (N := 9) hx hb hts hinX9 hown hK hP 0 rfl rfl 4 (by decide) (hts (.fieldLink RX9 44 "MixedWords" "words" "LMixedWords$Words;") (by decide +kernel)) (fun _ h9 => h9) rfl dX9_soft_30 ?_
        refine lv_iload_n hx hb dX9_soft_33 rfl (lv_at hl 1 rfl) ?_
        refine lv_iload_n hx hb dX9_soft_34 rfl (lv_at hl 2 rfl) ?_
        refine lv_iconst (v := nI 1) hx hb dX9_soft_35 (by decide) ?_
        refine xj_i (wc := (wWords h cs I L A Q G J)) (wr := [(h 100, .inr (9, [.ref (h 101), .ref (h 102), .ref (h 103), .ref (h 104), .ref (h 105), .ref (h 106), .ref (h 107), .ref (h 108), .ref (h 109)]))]) hP hD hS hA [1, 2, 3, 4, 5, 6, 7, 8, 9, 10, 11, 12] [0] rfl rfl (by decide +kernel) (by decide +kernel) (va_runV (As := [.int (nI i_4), .int (nI b9), .int (nI 1)]) (rest := []) ⟨hx, hb, hml, hown, hts⟩ (k_X8_leastWith l dC dI h cs H.size I L A Q G J i_4 b9 1 R M a (by first | assumption | omega) (by first | assumption | omega) (by first | assumption | omega) hR (by first | assumption | omega | exact hR1) (by first | assumption | omega | exact hR5) hM (by first | assumption | omega | exact hM1) (by first | assumption | omega | exact hM4) ha (by first | assumption | omega | exact ha2)) (cwV 3 hts gX9_soft_X8_leastWith rfl rfl rfl (by decide +kernel) ⟨Nat.le_of_ble_eq_true rfl, Nat.le_of_ble_eq_true rfl⟩) (xpV (wc := (wWords h cs I L A Q G J)) hP hD hK hN [1, 2, 3, 4, 5, 6, 7, 8, 9, 10, 11, 12] rfl (by decide) 1 (ci := 8) rfl rfl _) rfl rfl hl.1 rfl (lv_room (Nat.le_of_ble_eq_true rfl)) dX9_soft_36 ⟨Nat.zero_le _, Nat.zero_le _⟩) (fun r_14 u_13 H locs hw hP hD hS => ?_)
        obtain ⟨f170_15, x173_16, hf_17, rfl⟩ := hw
        have hP : va_P (dC, dI) vwCl (wFO h cs (va_up I 173 x173_16) L (va_up A 170 f170_15) Q G J) H := hP
        have hD : va_D A0 (wFO h cs (va_up I 173 x173_16) L (va_up A 170 f170_15) Q G J) := hD
        obtain ⟨hw1, rfl⟩ := hf_17
        refine lv_aload_n hx hb dX9_soft_39 rfl (lv_at hl 0 rfl) ?_
        refine va_get (D := (dC, dI)) (ci := 9) (v := .ref (h 105)) (C := RX9) (T := TX9) (N := 9) hx hb hts hinX9 hown hK hP 0 rfl rfl 4 (by decide) (hts (.fieldLink RX9 44 "MixedWords" "words" "LMixedWords$Words;") (by decide +kernel)) (fun _ h9 => h9) rfl dX9_soft_40 ?_
        refine lv_iload_n hx hb dX9_soft_43 rfl (lv_at hl 1 rfl) ?_
        refine lv_iload_n hx hb dX9_soft_44 rfl (lv_at hl 2 rfl) ?_
        refine lv_iconst (v := nI 0) hx hb dX9_soft_45 (by decide) ?_
        refine xj_i (wc := (wWords h cs (va_up I 173 x173_16) L (va_up A 170 f170_15) Q G J)) (wr := [(h 100, .inr (9, [.ref (h 101), .ref (h 102), .ref (h 103), .ref (h 104), .ref (h 105), .ref (h 106), .ref (h 107), .ref (h 108), .ref (h 109)]))]) hP hD hS hA [1, 2, 3, 4, 5, 6, 7, 8, 9, 10, 11, 12] [0] rfl rfl (by decide +kernel) (by decide +kernel) (va_runV (As := [.int (nI i_4), .int (nI b9), .int (nI 0)]) (rest := [.int (lwF f170_15 (bitC a M i_4 b9) 1 (a ^ M))]) ⟨hx, hb, hml, hown, hts⟩ (k_X8_leastWith l dC dI h cs H.size (va_up I 173 x173_16) L (va_up A 170 f170_15) Q G J i_4 b9 0 R M a (by first | assumption | omega) (by first | assumption | omega) (by first | assumption | omega) hR (by first | assumption | omega | exact hR1) (by first | assumption | omega | exact hR5) hM (by first | assumption | omega | exact hM1) (by first | assumption | omega | exact hM4) ha (by first | assumption | omega | exact ha2)) (cwV 3 hts gX9_soft_X8_leastWith rfl rfl rfl (by decide +kernel) ⟨Nat.le_of_ble_eq_true rfl, Nat.le_of_ble_eq_true rfl⟩) (xpV (wc := (wWords h cs (va_up I 173 x173_16) L (va_up A 170 f170_15) Q G J)) hP hD hK hN [1, 2, 3, 4, 5, 6, 7, 8, 9, 10, 11, 12] rfl (by decide) 1 (ci := 8) rfl rfl _) rfl rfl hl.1 rfl (lv_room (Nat.le_of_ble_eq_true rfl)) dX9_soft_46 ⟨Nat.zero_le _, Nat.zero_le _⟩) (fun r_19 u_18 H locs hw hP hD hS => ?_)
        obtain ⟨f170_20, x173_21, hf_22, rfl⟩ := hw
        have hP : va_P (dC, dI) vwCl (wFO h cs (va_up I 173 x173_21) L (va_up A 170 f170_20) Q G J) H := hP
        have hD : va_D A0 (wFO h cs (va_up I 173 x173_21) L (va_up A 170 f170_20) Q G J) := hD
        obtain ⟨hw2, rfl⟩ := hf_22
        have hw3 : f170_20 = f170_15 ∧ x173_21 = x173_16 := by
          rcases hw2 with ⟨-, q1, q2⟩ | ⟨q1, -⟩
          · exact ⟨q1, q2⟩
          · rcases hw1 with ⟨q2, -, q3⟩ | ⟨-, q3, -⟩
            · exact absurd (q3.trans q2) q1
            · exact absurd q3 q1
        obtain ⟨rfl, rfl⟩ := hw3
        refine lv_isub hx hb dX9_soft_49 ?_
        exact xr_i (v := ((lwF f170_20 (bitC a M i_4 b9) 1 (a ^ M)) - (lwF f170_20 (bitC a M i_4 b9) 0 (a ^ M)))) hx hb hr hlocks hK hS dX9_soft_50 ((va_up I 173 x173_21), L, (va_up A 170 f170_20), Q, G, J) ⟨x173_21, f170_20, (Or.inl ⟨i_4, b9, hi_5, hb9, hx_6, hxb9, hw1, rfl⟩), rfl⟩ hP hD
      · skip
        refine lv_ldc (v := (-100000001)) hx hb hown (hts (.constant RX9 169 (-100000001)) (by decide +kernel)) dX9_soft_26 ?_
        exact xr_i (v := (-100000001 : Int32)) hx hb hr hlocks hK hS dX9_soft_28 ((va_up I 173 (I 173)), L, (va_up A 170 (A 170)), Q, G, J) ⟨(I 173), (A 170), (Or.inr ⟨rfl, fun i j h1 h2 h3 h4 => (by first | exact rg_no1 (by omega) (by assumption) j h2 h4 | exact rg_no2 (by omega) (Int32.not_lt.mp (by assumption)) j h2 h4), rfl, rfl⟩), rfl⟩ hP hD
  · skip
    refine lv_if_eq (tgt := 26) hx hb dX9_soft_8 (by decide) (fun _ => ?_) (fun c9 => False.elim (by revert c9; decide +kernel))
    refine lv_ldc (v := (-100000001)) hx hb hown (hts (.constant RX9 169 (-100000001)) (by decide +kernel)) dX9_soft_26 ?_
    exact xr_i (v := (-100000001 : Int32)) hx hb hr hlocks hK hS dX9_soft_28 ((va_up I 173 (I 173)), L, (va_up A 170 (A 170)), Q, G, J) ⟨(I 173), (A 170), (Or.inr ⟨rfl, fun i j h1 h2 h3 h4 => hn_7 i h1 h3, rfl, rfl⟩), rfl⟩ hP hD
set_option maxRecDepth 20000 in
theorem ggX9_nearest_X3_wordCount : GoodIn wsX9_nearest wsX3_wordCount := goodIn_r _ [7, 8, 9, 10, 11, 6, 12, 13, 70, 71, 72, 73, 74, 75] rfl (by decide +kernel)
set_option maxRecDepth 20000 in
theorem gX9_nearest_X3_wordCount : GoodIn wsX9_nearest (wsV RX9 156 RX3 yX3_wordCount wsX3_wordCount) := goodIn_app (goodIn_of _ (by decide +kernel)) ggX9_nearest_X3_wordCount
set_option maxRecDepth 20000 in
theorem ggX9_nearest_X8_ranked : GoodIn wsX9_nearest wsX8_ranked := goodIn_r _ [18, 19, 20, 21, 22, 17, 23, 24, 25, 26, 27, 28, 4, 5, 6, 7, 8, 9, 10, 11, 12, 13, 29, 30, 31, 32, 33, 34, 35, 36, 37, 38, 39, 40, 41, 42, 43, 44, 45, 46, 47, 48, 49, 50, 51, 52, 53, 54, 55, 56, 57, 58, 59, 60, 76, 77, 78, 79, 80, 81, 70, 71, 72, 73, 74, 75] rfl (by decide +kernel)
set_option maxRecDepth 20000 in
theorem gX9_nearest_X8_ranked : GoodIn wsX9_nearest (wsV RX9 163 RX8 yX8_ranked wsX8_ranked) := goodIn_app (goodIn_of _ (by decide +kernel)) ggX9_nearest_X8_ranked
theorem bdX9_nearest_0 : (decode cX9_nearest 0 = .ok (.iload_n 1, 1)) ∧ (decode cX9_nearest 1 = .ok (.ifCond .lt 14, 3)) ∧ (decode cX9_nearest 4 = .ok (.iload_n 1, 1)) ∧ (decode cX9_nearest 5 = .ok (.aload_n 0, 1)) ∧ (decode cX9_nearest 6 = .ok (.getfield 12, 3)) ∧ (decode cX9_nearest 9 = .ok (.invokevirtual 156, 3)) ∧ (decode cX9_nearest 12 = .ok (.if_icmp .lt 7, 3)) ∧ (decode cX9_nearest 15 = .ok (.iconst (-1), 1)) ∧ (decode cX9_nearest 16 = .ok (.goto 11, 3)) ∧ (decode cX9_nearest 19 = .ok (.aload_n 0, 1)) ∧ (decode cX9_nearest 20 = .ok (.getfield 44, 3)) ∧ (decode cX9_nearest 23 = .ok (.iload_n 1, 1)) ∧ (decode cX9_nearest 24 = .ok (.invokevirtual 163, 3)) ∧ (decode cX9_nearest 27 = .ok (.ireturn, 1)) := by decide +kernel
theorem dX9_nearest_0 : decode cX9_nearest 0 = .ok (.iload_n 1, 1) := bdX9_nearest_0.1
theorem dX9_nearest_1 : decode cX9_nearest 1 = .ok (.ifCond .lt 14, 3) := bdX9_nearest_0.2.1
theorem dX9_nearest_4 : decode cX9_nearest 4 = .ok (.iload_n 1, 1) := bdX9_nearest_0.2.2.1
theorem dX9_nearest_5 : decode cX9_nearest 5 = .ok (.aload_n 0, 1) := bdX9_nearest_0.2.2.2.1
theorem dX9_nearest_6 : decode cX9_nearest 6 = .ok (.getfield 12, 3) := bdX9_nearest_0.2.2.2.2.1
theorem dX9_nearest_9 : decode cX9_nearest 9 = .ok (.invokevirtual 156, 3) := bdX9_nearest_0.2.2.2.2.2.1
theorem dX9_nearest_12 : decode cX9_nearest 12 = .ok (.if_icmp .lt 7, 3) := bdX9_nearest_0.2.2.2.2.2.2.1
theorem dX9_nearest_15 : decode cX9_nearest 15 = .ok (.iconst (-1), 1) := bdX9_nearest_0.2.2.2.2.2.2.2.1
theorem dX9_nearest_16 : decode cX9_nearest 16 = .ok (.goto 11, 3) := bdX9_nearest_0.2.2.2.2.2.2.2.2.1
theorem dX9_nearest_19 : decode cX9_nearest 19 = .ok (.aload_n 0, 1) := bdX9_nearest_0.2.2.2.2.2.2.2.2.2.1
theorem dX9_nearest_20 : decode cX9_nearest 20 = .ok (.getfield 44, 3) := bdX9_nearest_0.2.2.2.2.2.2.2.2.2.2.1
theorem dX9_nearest_23 : decode cX9_nearest 23 = .ok (.iload_n 1, 1) := bdX9_nearest_0.2.2.2.2.2.2.2.2.2.2.2.1
theorem dX9_nearest_24 : decode cX9_nearest 24 = .ok (.invokevirtual 163, 3) := bdX9_nearest_0.2.2.2.2.2.2.2.2.2.2.2.2.1
theorem dX9_nearest_27 : decode cX9_nearest 27 = .ok (.ireturn, 1) := bdX9_nearest_0.2.2.2.2.2.2.2.2.2.2.2.2.2
set_option maxHeartbeats 4000000 in
set_option maxRecDepth 100000 in
theorem k_X9_nearest (l : Launch) (dC : Nat → ClassId) (dI : Nat → Nat → Nat) (h : Nat → Nat) (cs : Nat → ClassId) (sz : Nat) (I : Nat → Int32) (L : Nat → Int64) (A : Nat → Nat → Int32) (Q : Nat → Nat → Int64) (G : Nat → Nat → Nat → Int32) (J : Nat → Nat → Nat → Int64) (x : Int32) (R M a : Nat) (hR : I 120 = nI R) (hR1 : 1 ≤ R) (hR5 : R ≤ 5) (hM : I 121 = nI M) (hM1 : 1 ≤ M) (hM4 : M ≤ 4) (ha : I 122 = nI a) (ha2 : a = 2 ∨ a = 4) : Met l yX9_nearest wsX9_nearest ({ frames := 5, cells := 0, slots := 0, locals := 109 }) (va_Pc [.ref (h 100), .int x] (xPre (dC, dI) (wFO h cs I L A Q G J) (tysA cs) sz)) (va_Qi (fun (r : Int32) (u : CS) => ∃ i173 : Int32, ∃ i174 : Int32, ∃ a170 : Nat → Int32, ∃ a171 : Nat → Int32, ∃ a172 : Nat → Int32, ((∃ i : Nat, i < a ^ M ∧ x = nI i ∧ ((I 173 = I 123 ∧ a170 = A 170 ∧ i173 = I 173) ∨ (¬ I 173 = I 123 ∧ i173 = I 123 ∧ ∀ t : Nat, t < a ^ M → a170 t = offC (A 136) (G 0) a M t R)) ∧ ((I 174 = I 123 ∧ i174 = I 174 ∧ a171 = A 171) ∨ (¬ I 174 = I 123 ∧ i174 = I 123 ∧ ∃ be : Nat → Nat, (∀ q : Nat, q < a ^ M → a171 q = nI (be q)) ∧ Blk a170 be 0 (a ^ M))) ∧ r = a171 i) ∨ (r = -1 ∧ (∀ i : Nat, i < a ^ M → x ≠ nI i) ∧ a170 = A 170 ∧ i173 = I 173 ∧ a171 = A 171 ∧ i174 = I 174)) ∧ u = ((va_up (va_up I 173 i173) 174 i174), L, (va_up (va_up (va_up A 170 a170) 171 a171) 172 a172), Q, G, J)) (xB (dC, dI) (tysA cs) (va_A (wFO h cs I L A Q G J) sz) (fun u : CS => wFO h cs u.1 u.2.1 u.2.2.1 u.2.2.2.1 u.2.2.2.2.1 u.2.2.2.2.2)) (va_A (wFO h cs I L A Q G J) sz)) 0 0 (va_A (wFO h cs I L A Q G J) sz) := by
  refine Met.ofW (cc := cX9_nearest) (maxL := 2) (ret := (some .int)) (by decide) rfl ?_
  intro p e s m args below meth c s₁ B hml hv
  obtain ⟨rfl, hsz, hP, hK, hD0, hN⟩ := hv
  have hx := B.exec
  have hb := B.bytes
  have hr := B.returns
  have hts := atoms_spec (ws := wsX9_nearest) B.pre
  have hown : s.vm.findClass RX9 = some m.cls := findClass_of_methodNamed B.named
  have hlocks := B.notSynchronized
  subst hsz
  have hD := hD0.self (sz := s.heap.size)
  generalize hAe : va_A (wFO h cs I L A Q G J) s.heap.size = A0 at hD ⊢
  have hA : ∀ q : Nat, s.heap.size ≤ q → A0 q := fun q h => by rw [← hAe]; exact Or.inr h
  have hl := lv_entry ([.ref (h 100), .int x]) (n := 2) (Nat.le_of_ble_eq_true rfl)
  rw [lg_entry_eq]
  generalize (lg_sl ([.ref (h 100), .int x]) ++ List.replicate (2 - (lg_sl ([.ref (h 100), .int x])).length) Slot.unset).toArray = ls at hl ⊢
  have hl : lv_has ls 2 [(0, .ref (h 100)), (1, .int x)] := hl
  generalize hH : s.heap = H at hP ⊢
  have hS : va_S A0 s.heap H [] := by rw [← hH]; exact va_S.rf
  have hinX9 : ∀ w ∈ wsX90, w ∈ wsX9_nearest := by decide +kernel
  have hpw : a ^ M ≤ 256 := pw_le ha2 hM4
  refine lv_iload_n hx hb dX9_nearest_0 rfl (lv_at hl 1 rfl) ?_
  refine lv_if_lt (tgt := 15) hx hb dX9_nearest_1 (by decide) (fun c_1_0 => ?_) (fun c_1_0 => ?_)
  · skip
    refine lv_iconst (v := (-1)) hx hb dX9_nearest_15 (by decide) ?_
    refine lv_goto (tgt := 27) hx hb dX9_nearest_16 (by decide) ?_
    exact xr_i (v := (-1)) hx hb hr hlocks hK hS dX9_nearest_27 ((va_up (va_up I 173 (I 173)) 174 (I 174)), L, (va_up (va_up (va_up A 170 (A 170)) 171 (A 171)) 172 (A 172)), Q, G, J) ⟨(I 173), (I 174), (A 170), (A 171), (A 172), (Or.inr ⟨rfl, by first | exact rg_no1 (by omega) (by assumption) | exact rg_no2 (by omega) (Int32.not_lt.mp (by assumption)), rfl, rfl, rfl, rfl⟩), rfl⟩ hP hD
  · skip
    refine lv_iload_n hx hb dX9_nearest_4 rfl (lv_at hl 1 rfl) ?_
    refine lv_aload_n hx hb dX9_nearest_5 rfl (lv_at hl 0 rfl) ?_
    refine va_get (D := (dC, dI)) (ci := 9) (v := .ref (h 101)) (C := RX9) (T := TX9) (N := 9) hx hb hts hinX9 hown hK hP 0 rfl rfl 0 (by decide) (hts (.fieldLink RX9 12 "MixedWords" "mix" "LMixedWords$Mix;") (by decide +kernel)) (fun _ h9 => h9) rfl dX9_nearest_6 ?_
    refine xj_i (wc := (wMix h cs I L A Q G J)) (wr := [(h 100, .inr (9, [.ref (h 101), .ref (h 102), .ref (h 103), .ref (h 104), .ref (h 105), .ref (h 106), .ref (h 107), .ref (h 108), .ref (h 109)])), (h 105, .inr (8, [.ref (h 101), .ref (h 170), .ref (h 171), .ref (h 172), .int (I 173), .int (I 174)])), (h 170, .inl (cs 0, 256, .inl (A 170))), (h 171, .inl (cs 0, 256, .inl (A 171))), (h 172, .inl (cs 0, 256, .inl (A 172)))]) hP hD hS hA [5, 6, 7, 8, 9, 10, 11, 12] [0, 1, 2, 3, 4] rfl rfl (by decide +kernel) (by decide +kernel) (va_runV (As := []) (rest := [.int x]) ⟨hx, hb, hml, hown, hts⟩ (k_X3_wordCount l dC dI h cs H.size I L A Q G J M a hM (by first | assumption | omega | exact hM1) (by first | assumption | omega | exact hM4) ha (by first | assumption | omega | exact ha2)) (cwV 0 hts gX9_nearest_X3_wordCount rfl rfl rfl (by decide +kernel) ⟨Nat.le_of_ble_eq_true rfl, Nat.le_of_ble_eq_true rfl⟩) (xpV (wc := (wMix h cs I L A Q G J)) hP hD hK hN [5, 6, 7, 8, 9, 10, 11, 12] rfl (by decide) 5 (ci := 3) rfl rfl _) rfl rfl hl.1 rfl (lv_room (Nat.le_of_ble_eq_true rfl)) dX9_nearest_9 ⟨Nat.zero_le _, Nat.zero_le _⟩) (fun r_3 u_2 H locs hw hP hD hS => ?_)
    obtain ⟨hf_4, rfl⟩ := hw
    have hP : va_P (dC, dI) vwCl (wFO h cs I L A Q G J) H := hP
    have hD : va_D A0 (wFO h cs I L A Q G J) := hD
    obtain rfl := hf_4
    refine lv_icmp_lt (tgt := 19) hx hb dX9_nearest_12 (by decide) (fun c_12_4 => ?_) (fun c_12_4 => ?_)
    · skip
      obtain ⟨w9, hw9, hxw9⟩ := rg_yes (x := x) (n := a ^ M) (by omega) (by assumption) (Int32.not_le.mpr (by assumption))
      rw [hxw9] at hl
      refine lv_aload_n hx hb dX9_nearest_19 rfl (lv_at hl 0 rfl) ?_
      refine va_get (D := (dC, dI)) (ci := 9) (v := .ref (h 105)) (C := RX9) (T := TX9) (N := 9) hx hb hts hinX9 hown hK hP 0 rfl rfl 4 (by decide) (hts (.fieldLink RX9 44 "MixedWords" "words" "LMixedWords$Words;") (by decide +kernel)) (fun _ h9 => h9) rfl dX9_nearest_20 ?_
      refine lv_iload_n hx hb dX9_nearest_23 rfl (lv_at hl 1 rfl) ?_
      refine xj_i (wc := (wWords h cs I L A Q G J)) (wr := [(h 100, .inr (9, [.ref (h 101), .ref (h 102), .ref (h 103), .ref (h 104), .ref (h 105), .ref (h 106), .ref (h 107), .ref (h 108), .ref (h 109)]))]) hP hD hS hA [1, 2, 3, 4, 5, 6, 7, 8, 9, 10, 11, 12] [0] rfl rfl (by decide +kernel) (by decide +kernel) (va_runV (As := [.int (nI w9)]) (rest := []) ⟨hx, hb, hml, hown, hts⟩ (k_X8_ranked l dC dI h cs H.size I L A Q G J w9 R M a (by first | assumption | omega) hR (by first | assumption | omega | exact hR1) (by first | assumption | omega | exact hR5) hM (by first | assumption | omega | exact hM1) (by first | assumption | omega | exact hM4) ha (by first | assumption | omega | exact ha2)) (cwV 1 hts gX9_nearest_X8_ranked rfl rfl rfl (by decide +kernel) ⟨Nat.le_of_ble_eq_true rfl, Nat.le_of_ble_eq_true rfl⟩) (xpV (wc := (wWords h cs I L A Q G J)) hP hD hK hN [1, 2, 3, 4, 5, 6, 7, 8, 9, 10, 11, 12] rfl (by decide) 1 (ci := 8) rfl rfl _) rfl rfl hl.1 rfl (lv_room (Nat.le_of_ble_eq_true rfl)) dX9_nearest_24 ⟨Nat.zero_le _, Nat.zero_le _⟩) (fun r_7 u_6 H locs hw hP hD hS => ?_)
      obtain ⟨i173_8, i174_9, a170_10, a171_11, a172_12, hf_13, rfl⟩ := hw
      have hP : va_P (dC, dI) vwCl (wFO h cs (va_up (va_up I 173 i173_8) 174 i174_9) L (va_up (va_up (va_up A 170 a170_10) 171 a171_11) 172 a172_12) Q G J) H := hP
      have hD : va_D A0 (wFO h cs (va_up (va_up I 173 i173_8) 174 i174_9) L (va_up (va_up (va_up A 170 a170_10) 171 a171_11) 172 a172_12) Q G J) := hD
      have hrk := hf_13
      exact xr_i (v := r_7) hx hb hr hlocks hK hS dX9_nearest_27 ((va_up (va_up I 173 i173_8) 174 i174_9), L, (va_up (va_up (va_up A 170 a170_10) 171 a171_11) 172 a172_12), Q, G, J) ⟨i173_8, i174_9, a170_10, a171_11, a172_12, (Or.inl ⟨w9, hw9, hxw9, hrk⟩), rfl⟩ hP hD
    · skip
      refine lv_iconst (v := (-1)) hx hb dX9_nearest_15 (by decide) ?_
      refine lv_goto (tgt := 27) hx hb dX9_nearest_16 (by decide) ?_
      exact xr_i (v := (-1)) hx hb hr hlocks hK hS dX9_nearest_27 ((va_up (va_up I 173 (I 173)) 174 (I 174)), L, (va_up (va_up (va_up A 170 (A 170)) 171 (A 171)) 172 (A 172)), Q, G, J) ⟨(I 173), (I 174), (A 170), (A 171), (A 172), (Or.inr ⟨rfl, by first | exact rg_no1 (by omega) (by assumption) | exact rg_no2 (by omega) (Int32.not_lt.mp (by assumption)), rfl, rfl, rfl, rfl⟩), rfl⟩ hP hD
