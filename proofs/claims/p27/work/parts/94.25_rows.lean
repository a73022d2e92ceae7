set_option maxHeartbeats 4000000 in
set_option maxRecDepth 100000 in
theorem lc_25 {p : Program} {e : Env} {s : State} {m : MethodId} {below : List Frame} {meth : Method} {c : Code} (l : Launch) {b N0 t : Nat} {xs : Nat → Int32} (hL : N0 ≤ 2560) (ht : 5 * t + 5 ≤ N0) (C0 : lw_At p s m meth c b N0 xs) {dC : Nat → ClassId} {dI : Nat → Nat → Nat} {h k : Nat → Nat} {cs : Nat → ClassId} (hK : va_K (dC, dI) vwCl (tysA cs) s) (hN : nestA s) {I : Nat → Int32} {L : Nat → Int64} {A : Nat → Nat → Int32} {Q : Nat → Nat → Int64} {G : Nat → Nat → Nat → Int32} {J : Nat → Nat → Nat → Int64} {rI : Nat → Int32} {rL : Nat → Int64} {rA : Nat → Nat → Int32} {rQ : Nat → Nat → Int64} {H : Heap} {locs : List Loc} {ls : Array Slot} (hJ : JS t I A Q G rI rA) (hP : va_P (dC, dI) vwCl (wAll h cs I L A Q G J ++ rW k cs rI rL rA rQ) H) (hD : va_D (fun q : Nat => s.heap.size ≤ q) (wAll h cs I L A Q G J ++ rW k cs rI rL rA rQ)) (hS : va_S (fun q : Nat => s.heap.size ≤ q) s.heap H locs) (hl : lv_has ls 4 [(3, .int (nI (5 * t))), (2, .ref (k 0)), (1, .ref (h 100)), (0, .ref b)]) (kk : ∀ (I : Nat → Int32) (L : Nat → Int64) (A : Nat → Nat → Int32) (Q : Nat → Nat → Int64) (G : Nat → Nat → Nat → Int32) (J : Nat → Nat → Nat → Int64) (rI : Nat → Int32) (rL : Nat → Int64) (rA : Nat → Nat → Int32) (rQ : Nat → Nat → Int64) (H : Heap) (locs : List Loc), JS (t + 1) I A Q G rI rA → va_P (dC, dI) vwCl (wAll h cs I L A Q G J ++ rW k cs rI rL rA rQ) H → va_D (fun q : Nat => s.heap.size ≤ q) (wAll h cs I L A Q G J ++ rW k cs rI rL rA rQ) → va_S (fun q : Nat => s.heap.size ≤ q) s.heap H locs → W p l e room_1 s m #[Value.ref b] below meth c H locs 1000 10000 (lw_Z below #[Value.ref b] s) (F0 m 890 ls [])) : W p l e room_1 s m #[Value.ref b] below meth c H locs 1000 10000 (lw_Z below #[Value.ref b] s) (F0 m 847 ls []) := by
  obtain ⟨hx, hb, hr0, hml, hown, htbl, hX, hbl, hlocks, hgv⟩ := id C0
  have hown : s.vm.findClass RL = some m.cls := hown
  have hts : ∀ w ∈ wsL_law, w.before #[Value.ref b] s = true := fun w hw => htbl w (wsL_law_in w hw)
  have hA : ∀ q : Nat, s.heap.size ≤ q → (fun q : Nat => s.heap.size ≤ q) q := fun _ h => h
  have hbA : ¬ (fun q : Nat => s.heap.size ≤ q) b := Nat.not_le.mpr hbl
  obtain ⟨⟨R, M, a, sp, o, bk, on, T, hc, hr, ht9, ha9, hp9, h99⟩, hs4, hq9, hcc⟩ := hJ
  obtain ⟨⟨c1, c2, c3⟩, ⟨c4, c5, c6⟩, ⟨c7, c8⟩, ⟨c9, c10⟩, ⟨c11, c12⟩, ⟨c13, c14, c15⟩, c16, ⟨c17, c18⟩⟩ := id hc
  obtain ⟨⟨g1, g2, g3⟩, ⟨g4, g5, g6⟩, ⟨g7, g8⟩, ⟨g9, g10, g11⟩, g12, ⟨g13, g14⟩, g15, g16⟩ := id hr
  refine lv_aload_n hx hb dL_law_847 rfl (lv_at hl 2 rfl) ?_
  refine lv_aload_n hx hb dL_law_848 rfl (lv_at hl 3 rfl) ?_
  refine lv_iload_n hx hb dL_law_849 rfl (lv_at hl 0 rfl) ?_
  refine lv_iconst (v := nI 1) hx hb dL_law_850 (by decide) ?_
  refine lv_iadd hx hb dL_law_851 ?_
  refine xt_i (y := nI (5 * t + 1)) (nI_add _ _) ?_
  refine xa_sld (k := 5 * t + 1) hx hb hX hbl hbA hS (by omega) (by omega) dL_law_852 ?_
  refine lv_aload_n hx hb dL_law_853 rfl (lv_at hl 3 rfl) ?_
  refine lv_iload_n hx hb dL_law_854 rfl (lv_at hl 0 rfl) ?_
  refine lv_iconst (v := nI 2) hx hb dL_law_855 (by decide) ?_
  refine lv_iadd hx hb dL_law_856 ?_
  refine xt_i (y := nI (5 * t + 2)) (nI_add _ _) ?_
  refine xa_sld (k := 5 * t + 2) hx hb hX hbl hbA hS (by omega) (by omega) dL_law_857 ?_
  refine lv_aload_n hx hb dL_law_858 rfl (lv_at hl 3 rfl) ?_
  refine lv_iload_n hx hb dL_law_859 rfl (lv_at hl 0 rfl) ?_
  refine lv_iconst (v := nI 3) hx hb dL_law_860 (by decide) ?_
  refine lv_iadd hx hb dL_law_861 ?_
  refine xt_i (y := nI (5 * t + 3)) (nI_add _ _) ?_
  refine xa_sld (k := 5 * t + 3) hx hb hX hbl hbA hS (by omega) (by omega) dL_law_862 ?_
  refine xj_i (wc := (wFX h cs I L A Q G J)) (wr := (wR_wFX h cs I L A Q G J ++ rW k cs rI rL rA rQ)) hP hD hS hA [0, 53, 54, 55, 56, 57, 58, 59, 60, 61, 1, 2, 3, 4, 5, 6, 7, 8, 9, 10, 11, 12, 13] [14, 15, 16, 17, 18, 19, 20, 21, 22, 23, 24, 25, 26, 27, 28, 29, 30, 31, 32, 33, 34, 35, 36, 37, 38, 39, 40, 41, 42, 43, 44, 45, 46, 47, 48, 49, 50, 51, 52, 62, 63, 64, 65, 66, 67, 68, 69, 70, 71, 72, 73, 74, 75, 76, 77, 78] rfl rfl (by decide +kernel) (by decide +kernel) (va_runV (As := [.int (xs (5 * t + 1)), .int (xs (5 * t + 2)), .int (xs (5 * t + 3))]) (rest := []) ⟨hx, hb, hml, hown, hts⟩ (k_X9_rows l dC dI h cs H.size I L A Q G J (xs (5 * t + 1)) (xs (5 * t + 2)) (xs (5 * t + 3)) R M sp (by first | assumption | omega) (by first | assumption | omega) (by first | assumption | omega) (by first | assumption | omega) (by first | assumption | omega) (by first | assumption | omega) (by first | assumption | omega) (by first | assumption | omega) (S4_ln hs4)) (cwV 3 hts gL_law_X9_rows rfl rfl rfl (by decide +kernel) ⟨Nat.le_of_ble_eq_true rfl, Nat.le_of_ble_eq_true rfl⟩) (xpV (wc := (wFX h cs I L A Q G J)) hP hD hK hN [0, 53, 54, 55, 56, 57, 58, 59, 60, 61, 1, 2, 3, 4, 5, 6, 7, 8, 9, 10, 11, 12, 13] rfl (by decide) 0 (ci := 9) rfl rfl _) rfl rfl hl.1 rfl (lv_room (Nat.le_of_ble_eq_true rfl)) dL_law_863 ⟨Nat.le_of_ble_eq_true rfl, Nat.le_of_ble_eq_true rfl⟩) (fun r1 u1 H locs hw1 hP hD hS => ?_)
  obtain ⟨u1_i123, u1_i144, u1_i145, u1_i146, u1_a136, u1_g0, hf1, rfl⟩ := hw1
  have hP : va_P (dC, dI) vwCl (wAll h cs (va_up (va_up (va_up (va_up I 123 u1_i123) 144 u1_i144) 145 u1_i145) 146 u1_i146) L (va_up A 136 u1_a136) Q (va_up G 0 u1_g0) J ++ rW k cs rI rL rA rQ) H := xP_sub hP [56, 66, 67, 68, 69, 70, 71, 72, 73, 74, 75, 76, 77, 78, 0, 1, 2, 3, 4, 5, 6, 7, 8, 9, 10, 11, 12, 13, 14, 15, 16, 17, 18, 19, 20, 21, 22, 23, 24, 25, 26, 27, 28, 29, 30, 31, 32, 33, 34, 35, 36, 37, 38, 57, 58, 59, 60, 61, 62, 63, 64, 65, 39, 40, 41, 42, 43, 44, 45, 46, 47, 48, 49, 50, 51, 52, 53, 54, 55] rfl
  have hD : va_D (fun q : Nat => s.heap.size ≤ q) (wAll h cs (va_up (va_up (va_up (va_up I 123 u1_i123) 144 u1_i144) 145 u1_i145) 146 u1_i146) L (va_up A 136 u1_a136) Q (va_up G 0 u1_g0) J ++ rW k cs rI rL rA rQ) := hD.sub [56, 66, 67, 68, 69, 70, 71, 72, 73, 74, 75, 76, 77, 78, 0, 1, 2, 3, 4, 5, 6, 7, 8, 9, 10, 11, 12, 13, 14, 15, 16, 17, 18, 19, 20, 21, 22, 23, 24, 25, 26, 27, 28, 29, 30, 31, 32, 33, 34, 35, 36, 37, 38, 57, 58, 59, 60, 61, 62, 63, 64, 65, 39, 40, 41, 42, 43, 44, 45, 46, 47, 48, 49, 50, 51, 52, 53, 54, 55] (by decide +kernel) rfl
  refine lv_aload_n hx hb dL_law_866 rfl (lv_at hl 1 rfl) ?_
  refine lv_aload_n hx hb dL_law_867 rfl (lv_at hl 3 rfl) ?_
  refine lv_iload_n hx hb dL_law_868 rfl (lv_at hl 0 rfl) ?_
  refine lv_iconst (v := nI 1) hx hb dL_law_869 (by decide) ?_
  refine lv_iadd hx hb dL_law_870 ?_
  refine xt_i (y := nI (5 * t + 1)) (nI_add _ _) ?_
  refine xa_sld (k := 5 * t + 1) hx hb hX hbl hbA hS (by omega) (by omega) dL_law_871 ?_
  refine lv_aload_n hx hb dL_law_872 rfl (lv_at hl 3 rfl) ?_
  refine lv_iload_n hx hb dL_law_873 rfl (lv_at hl 0 rfl) ?_
  refine lv_iconst (v := nI 2) hx hb dL_law_874 (by decide) ?_
  refine lv_iadd hx hb dL_law_875 ?_
  refine xt_i (y := nI (5 * t + 2)) (nI_add _ _) ?_
  refine xa_sld (k := 5 * t + 2) hx hb hX hbl hbA hS (by omega) (by omega) dL_law_876 ?_
  refine lv_aload_n hx hb dL_law_877 rfl (lv_at hl 3 rfl) ?_
  refine lv_iload_n hx hb dL_law_878 rfl (lv_at hl 0 rfl) ?_
  refine lv_iconst (v := nI 3) hx hb dL_law_879 (by decide) ?_
  refine lv_iadd hx hb dL_law_880 ?_
  refine xt_i (y := nI (5 * t + 3)) (nI_add _ _) ?_
  refine xa_sld (k := 5 * t + 3) hx hb hX hbl hbA hS (by omega) (by omega) dL_law_881 ?_
  refine xj_i (wc := (rW k cs rI rL rA rQ)) (wr := (wAll h cs (va_up (va_up (va_up (va_up I 123 u1_i123) 144 u1_i144) 145 u1_i145) 146 u1_i146) L (va_up A 136 u1_a136) Q (va_up G 0 u1_g0) J)) hP hD hS hA [62, 63, 64, 65, 66, 67, 68, 69, 70, 71, 72, 73, 74, 75, 76, 77, 78] [0, 1, 2, 3, 4, 5, 6, 7, 8, 9, 10, 11, 12, 13, 14, 15, 16, 17, 18, 19, 20, 21, 22, 23, 24, 25, 26, 27, 28, 29, 30, 31, 32, 33, 34, 35, 36, 37, 38, 39, 40, 41, 42, 43, 44, 45, 46, 47, 48, 49, 50, 51, 52, 53, 54, 55, 56, 57, 58, 59, 60, 61] rfl rfl (by decide +kernel) (by decide +kernel) (va_runV (As := [.int (xs (5 * t + 1)), .int (xs (5 * t + 2)), .int (xs (5 * t + 3))]) (rest := [.int r1]) ⟨hx, hb, hml, hown, hts⟩ (k_X10_rows l dC dI k cs H.size rI rL rA rQ (xs (5 * t + 1)) (xs (5 * t + 2)) (xs (5 * t + 3)) R M (by first | assumption | omega) (by first | assumption | omega) (by first | assumption | omega) (by first | assumption | omega) (by first | assumption | omega) (by first | assumption | omega) g16) (cwV 3 hts gL_law_X10_rows rfl rfl rfl (by decide +kernel) ⟨Nat.le_of_ble_eq_true rfl, Nat.le_of_ble_eq_true rfl⟩) (xpV (wc := (rW k cs rI rL rA rQ)) hP hD hK hN [62, 63, 64, 65, 66, 67, 68, 69, 70, 71, 72, 73, 74, 75, 76, 77, 78] rfl (by decide) 62 (ci := 10) rfl rfl _) rfl rfl hl.1 rfl (lv_room (Nat.le_of_ble_eq_true rfl)) dL_law_882 ⟨Nat.le_of_ble_eq_true rfl, Nat.le_of_ble_eq_true rfl⟩) (fun r2 u2 H locs hw2 hP hD hS => ?_)
  obtain ⟨u2_x4, u2_x5, u2_f3, hf2, rfl⟩ := hw2
  have hP : va_P (dC, dI) vwCl (wAll h cs (va_up (va_up (va_up (va_up I 123 u1_i123) 144 u1_i144) 145 u1_i145) 146 u1_i146) L (va_up A 136 u1_a136) Q (va_up G 0 u1_g0) J ++ rW k cs (va_up (va_up rI 4 u2_x4) 5 u2_x5) rL (va_up rA 3 u2_f3) rQ) H := hP
  have hD : va_D (fun q : Nat => s.heap.size ≤ q) (wAll h cs (va_up (va_up (va_up (va_up I 123 u1_i123) 144 u1_i144) 145 u1_i145) 146 u1_i146) L (va_up A 136 u1_a136) Q (va_up G 0 u1_g0) J ++ rW k cs (va_up (va_up rI 4 u2_x4) 5 u2_x5) rL (va_up rA 3 u2_f3) rQ) := hD
  have e9 : r1 = r2 := (jx_rows (Q := Q) hc hr ht9 ha9 hp9 h99 hs4 hq9 hf1 hf2).1
  refine lv_icmp_eq (tgt := 890) hx hb dL_law_885 (by decide) (fun _ => ?_) (fun c9 => absurd e9 c9)
  exact kk (va_up (va_up (va_up (va_up I 123 u1_i123) 144 u1_i144) 145 u1_i145) 146 u1_i146) L (va_up A 136 u1_a136) Q (va_up G 0 u1_g0) J (va_up (va_up rI 4 u2_x4) 5 u2_x5) rL (va_up rA 3 u2_f3) rQ H locs (by have q1 := (jx_rows (Q := Q) hc hr ht9 ha9 hp9 h99 hs4 hq9 hf1 hf2).2; have q5 := cc_rows (Q := Q) hcc c9 (by omega) hf1; exact ⟨q1, hs4, hq9, q5⟩) hP hD hS
