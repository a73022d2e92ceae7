set_option maxHeartbeats 4000000 in
set_option maxRecDepth 100000 in
theorem lc_19 {p : Program} {e : Env} {s : State} {m : MethodId} {below : List Frame} {meth : Method} {c : Code} (l : Launch) {b N0 t : Nat} {xs : Nat → Int32} (hL : N0 ≤ 2560) (ht : 5 * t + 5 ≤ N0) (C0 : lw_At p s m meth c b N0 xs) {dC : Nat → ClassId} {dI : Nat → Nat → Nat} {h k : Nat → Nat} {cs : Nat → ClassId} (hK : va_K (dC, dI) vwCl (tysA cs) s) (hN : nestA s) {I : Nat → Int32} {L : Nat → Int64} {A : Nat → Nat → Int32} {Q : Nat → Nat → Int64} {G : Nat → Nat → Nat → Int32} {J : Nat → Nat → Nat → Int64} {rI : Nat → Int32} {rL : Nat → Int64} {rA : Nat → Nat → Int32} {rQ : Nat → Nat → Int64} {H : Heap} {locs : List Loc} {ls : Array Slot} (hJ : JS t I A Q G rI rA) (hP : va_P (dC, dI) vwCl (wAll h cs I L A Q G J ++ rW k cs rI rL rA rQ) H) (hD : va_D (fun q : Nat => s.heap.size ≤ q) (wAll h cs I L A Q G J ++ rW k cs rI rL rA rQ)) (hS : va_S (fun q : Nat => s.heap.size ≤ q) s.heap H locs) (hl : lv_has ls 4 [(3, .int (nI (5 * t))), (2, .ref (k 0)), (1, .ref (h 100)), (0, .ref b)]) (kk : ∀ (I : Nat → Int32) (L : Nat → Int64) (A : Nat → Nat → Int32) (Q : Nat → Nat → Int64) (G : Nat → Nat → Nat → Int32) (J : Nat → Nat → Nat → Int64) (rI : Nat → Int32) (rL : Nat → Int64) (rA : Nat → Nat → Int32) (rQ : Nat → Nat → Int64) (H : Heap) (locs : List Loc), JS (t + 1) I A Q G rI rA → va_P (dC, dI) vwCl (wAll h cs I L A Q G J ++ rW k cs rI rL rA rQ) H → va_D (fun q : Nat => s.heap.size ≤ q) (wAll h cs I L A Q G J ++ rW k cs rI rL rA rQ) → va_S (fun q : Nat => s.heap.size ≤ q) s.heap H locs → W p l e room_1 s m #[Value.ref b] below meth c H locs 1000 10000 (lw_Z below #[Value.ref b] s) (F0 m 890 ls [])) : W p l e room_1 s m #[Value.ref b] below meth c H locs 1000 10000 (lw_Z below #[Value.ref b] s) (F0 m 649 ls []) := by
  obtain ⟨hx, hb, hr0, hml, hown, htbl, hX, hbl, hlocks, hgv⟩ := id C0
  have hown : s.vm.findClass RL = some m.cls := hown
  have hts : ∀ w ∈ wsL_law, w.before #[Value.ref b] s = true := fun w hw => htbl w (wsL_law_in w hw)
  have hA : ∀ q : Nat, s.heap.size ≤ q → (fun q : Nat => s.heap.size ≤ q) q := fun _ h => h
  have hbA : ¬ (fun q : Nat => s.heap.size ≤ q) b := Nat.not_le.mpr hbl
  obtain ⟨⟨R, M, a, sp, o, bk, on, T, hc, hr, ht9, ha9, hp9, h99⟩, hs4, hq9, hcc⟩ := hJ
  obtain ⟨⟨c1, c2, c3⟩, ⟨c4, c5, c6⟩, ⟨c7, c8⟩, ⟨c9, c10⟩, ⟨c11, c12⟩, ⟨c13, c14, c15⟩, c16, ⟨c17, c18⟩⟩ := id hc
  obtain ⟨⟨g1, g2, g3⟩, ⟨g4, g5, g6⟩, ⟨g7, g8⟩, ⟨g9, g10, g11⟩, g12, ⟨g13, g14⟩, g15, g16⟩ := id hr
  refine lv_aload_n hx hb dL_law_649 rfl (lv_at hl 2 rfl) ?_
  refine lv_aload_n hx hb dL_law_650 rfl (lv_at hl 3 rfl) ?_
  refine lv_iload_n hx hb dL_law_651 rfl (lv_at hl 0 rfl) ?_
  refine lv_iconst (v := nI 1) hx hb dL_law_652 (by decide) ?_
  refine lv_iadd hx hb dL_law_653 ?_
  refine xt_i (y := nI (5 * t + 1)) (nI_add _ _) ?_
  refine xa_sld (k := 5 * t + 1) hx hb hX hbl hbA hS (by omega) (by omega) dL_law_654 ?_
  refine lv_aload_n hx hb dL_law_655 rfl (lv_at hl 3 rfl) ?_
  refine lv_iload_n hx hb dL_law_656 rfl (lv_at hl 0 rfl) ?_
  refine lv_iconst (v := nI 2) hx hb dL_law_657 (by decide) ?_
  refine lv_iadd hx hb dL_law_658 ?_
  refine xt_i (y := nI (5 * t + 2)) (nI_add _ _) ?_
  refine xa_sld (k := 5 * t + 2) hx hb hX hbl hbA hS (by omega) (by omega) dL_law_659 ?_
  refine lv_aload_n hx hb dL_law_660 rfl (lv_at hl 3 rfl) ?_
  refine lv_iload_n hx hb dL_law_661 rfl (lv_at hl 0 rfl) ?_
  refine lv_iconst (v := nI 3) hx hb dL_law_662 (by decide) ?_
  refine lv_iadd hx hb dL_law_663 ?_
  refine xt_i (y := nI (5 * t + 3)) (nI_add _ _) ?_
  refine xa_sld (k := 5 * t + 3) hx hb hX hbl hbA hS (by omega) (by omega) dL_law_664 ?_
  refine xj_i (wc := (wFE h cs I L A Q G J)) (wr := (wR_wFE h cs I L A Q G J ++ rW k cs rI rL rA rQ)) hP hD hS hA [0, 40, 41, 42, 43, 44, 45, 46, 47, 48, 49, 50, 51, 52, 1, 2, 3, 4, 5, 6, 7, 8] [9, 10, 11, 12, 13, 14, 15, 16, 17, 18, 19, 20, 21, 22, 23, 24, 25, 26, 27, 28, 29, 30, 31, 32, 33, 34, 35, 36, 37, 38, 39, 53, 54, 55, 56, 57, 58, 59, 60, 61, 62, 63, 64, 65, 66, 67, 68, 69, 70, 71, 72, 73, 74, 75, 76, 77, 78] rfl rfl (by decide +kernel) (by decide +kernel) (va_runV (As := [.int (xs (5 * t + 1)), .int (xs (5 * t + 2)), .int (xs (5 * t + 3))]) (rest := []) ⟨hx, hb, hml, hown, hts⟩ (k_X9_ledAt l dC dI h cs H.size I L A Q G J (xs (5 * t + 1)) (xs (5 * t + 2)) (xs (5 * t + 3)) R M (by first | assumption | omega) (by first | assumption | omega) (by first | assumption | omega) (by first | assumption | omega) (by first | assumption | omega) (by first | assumption | omega)) (cwV 3 hts gL_law_X9_ledAt rfl rfl rfl (by decide +kernel) ⟨Nat.le_of_ble_eq_true rfl, Nat.le_of_ble_eq_true rfl⟩) (xpV (wc := (wFE h cs I L A Q G J)) hP hD hK hN [0, 40, 41, 42, 43, 44, 45, 46, 47, 48, 49, 50, 51, 52, 1, 2, 3, 4, 5, 6, 7, 8] rfl (by decide) 0 (ci := 9) rfl rfl _) rfl rfl hl.1 rfl (lv_room (Nat.le_of_ble_eq_true rfl)) dL_law_665 ⟨Nat.le_of_ble_eq_true rfl, Nat.le_of_ble_eq_true rfl⟩) (fun r1 u1 H locs hw1 hP hD hS => ?_)
  obtain ⟨u1_i212, u1_i213, u1_g2, u1_g3, hf1, rfl⟩ := hw1
  have hP : va_P (dC, dI) vwCl (wAll h cs (va_up (va_up I 212 u1_i212) 213 u1_i213) L A Q (va_up (va_up G 2 u1_g2) 3 u1_g3) J ++ rW k cs rI rL rA rQ) H := xP_sub hP [57, 71, 72, 73, 74, 75, 76, 77, 78, 0, 1, 2, 3, 4, 5, 6, 7, 8, 9, 10, 11, 12, 13, 14, 15, 16, 17, 18, 19, 20, 21, 22, 23, 24, 25, 26, 27, 28, 29, 30, 58, 59, 60, 61, 62, 63, 64, 65, 66, 67, 68, 69, 70, 31, 32, 33, 34, 35, 36, 37, 38, 39, 40, 41, 42, 43, 44, 45, 46, 47, 48, 49, 50, 51, 52, 53, 54, 55, 56] rfl
  have hD : va_D (fun q : Nat => s.heap.size ≤ q) (wAll h cs (va_up (va_up I 212 u1_i212) 213 u1_i213) L A Q (va_up (va_up G 2 u1_g2) 3 u1_g3) J ++ rW k cs rI rL rA rQ) := hD.sub [57, 71, 72, 73, 74, 75, 76, 77, 78, 0, 1, 2, 3, 4, 5, 6, 7, 8, 9, 10, 11, 12, 13, 14, 15, 16, 17, 18, 19, 20, 21, 22, 23, 24, 25, 26, 27, 28, 29, 30, 58, 59, 60, 61, 62, 63, 64, 65, 66, 67, 68, 69, 70, 31, 32, 33, 34, 35, 36, 37, 38, 39, 40, 41, 42, 43, 44, 45, 46, 47, 48, 49, 50, 51, 52, 53, 54, 55, 56] (by decide +kernel) rfl
  refine lv_pop hx hb dL_law_668 rfl ?_
  refine lv_aload_n hx hb dL_law_669 rfl (lv_at hl 1 rfl) ?_
  refine lv_aload_n hx hb dL_law_670 rfl (lv_at hl 3 rfl) ?_
  refine lv_iload_n hx hb dL_law_671 rfl (lv_at hl 0 rfl) ?_
  refine lv_iconst (v := nI 1) hx hb dL_law_672 (by decide) ?_
  refine lv_iadd hx hb dL_law_673 ?_
  refine xt_i (y := nI (5 * t + 1)) (nI_add _ _) ?_
  refine xa_sld (k := 5 * t + 1) hx hb hX hbl hbA hS (by omega) (by omega) dL_law_674 ?_
  refine lv_aload_n hx hb dL_law_675 rfl (lv_at hl 3 rfl) ?_
  refine lv_iload_n hx hb dL_law_676 rfl (lv_at hl 0 rfl) ?_
  refine lv_iconst (v := nI 2) hx hb dL_law_677 (by decide) ?_
  refine lv_iadd hx hb dL_law_678 ?_
  refine xt_i (y := nI (5 * t + 2)) (nI_add _ _) ?_
  refine xa_sld (k := 5 * t + 2) hx hb hX hbl hbA hS (by omega) (by omega) dL_law_679 ?_
  refine lv_aload_n hx hb dL_law_680 rfl (lv_at hl 3 rfl) ?_
  refine lv_iload_n hx hb dL_law_681 rfl (lv_at hl 0 rfl) ?_
  refine lv_iconst (v := nI 3) hx hb dL_law_682 (by decide) ?_
  refine lv_iadd hx hb dL_law_683 ?_
  refine xt_i (y := nI (5 * t + 3)) (nI_add _ _) ?_
  refine xa_sld (k := 5 * t + 3) hx hb hX hbl hbA hS (by omega) (by omega) dL_law_684 ?_
  refine xj_i (wc := (rW k cs rI rL rA rQ)) (wr := (wAll h cs (va_up (va_up I 212 u1_i212) 213 u1_i213) L A Q (va_up (va_up G 2 u1_g2) 3 u1_g3) J)) hP hD hS hA [62, 63, 64, 65, 66, 67, 68, 69, 70, 71, 72, 73, 74, 75, 76, 77, 78] [0, 1, 2, 3, 4, 5, 6, 7, 8, 9, 10, 11, 12, 13, 14, 15, 16, 17, 18, 19, 20, 21, 22, 23, 24, 25, 26, 27, 28, 29, 30, 31, 32, 33, 34, 35, 36, 37, 38, 39, 40, 41, 42, 43, 44, 45, 46, 47, 48, 49, 50, 51, 52, 53, 54, 55, 56, 57, 58, 59, 60, 61] rfl rfl (by decide +kernel) (by decide +kernel) (va_runV (As := [.int (xs (5 * t + 1)), .int (xs (5 * t + 2)), .int (xs (5 * t + 3))]) (rest := []) ⟨hx, hb, hml, hown, hts⟩ (k_X10_ledAt l dC dI k cs H.size rI rL rA rQ (xs (5 * t + 1)) (xs (5 * t + 2)) (xs (5 * t + 3)) R M (by first | assumption | omega) (by first | assumption | omega) (by first | assumption | omega) (by first | assumption | omega) (by first | assumption | omega) (by first | assumption | omega) g15) (cwV 3 hts gL_law_X10_ledAt rfl rfl rfl (by decide +kernel) ⟨Nat.le_of_ble_eq_true rfl, Nat.le_of_ble_eq_true rfl⟩) (xpV (wc := (rW k cs rI rL rA rQ)) hP hD hK hN [62, 63, 64, 65, 66, 67, 68, 69, 70, 71, 72, 73, 74, 75, 76, 77, 78] rfl (by decide) 62 (ci := 10) rfl rfl _) rfl rfl hl.1 rfl (lv_room (Nat.le_of_ble_eq_true rfl)) dL_law_685 ⟨Nat.le_of_ble_eq_true rfl, Nat.le_of_ble_eq_true rfl⟩) (fun r2 u2 H locs hw2 hP hD hS => ?_)
  obtain ⟨u2_a17, u2_a18, hf2, rfl⟩ := hw2
  have hP : va_P (dC, dI) vwCl (wAll h cs (va_up (va_up I 212 u1_i212) 213 u1_i213) L A Q (va_up (va_up G 2 u1_g2) 3 u1_g3) J ++ rW k cs rI rL (va_up (va_up rA 17 u2_a17) 18 u2_a18) rQ) H := hP
  have hD : va_D (fun q : Nat => s.heap.size ≤ q) (wAll h cs (va_up (va_up I 212 u1_i212) 213 u1_i213) L A Q (va_up (va_up G 2 u1_g2) 3 u1_g3) J ++ rW k cs rI rL (va_up (va_up rA 17 u2_a17) 18 u2_a18) rQ) := hD
  refine lv_pop hx hb dL_law_688 rfl ?_
  refine lv_goto (tgt := 890) hx hb dL_law_689 (by decide) ?_
  exact kk (va_up (va_up I 212 u1_i212) 213 u1_i213) L A Q (va_up (va_up G 2 u1_g2) 3 u1_g3) J rI rL (va_up (va_up rA 17 u2_a17) 18 u2_a18) rQ H locs (by have q1 := jx_same (Q := Q) hc hr ht9 ha9 hp9 h99; have q5 : CC (I 120) (I 121) (I 122) (I 123) (I 173) (I 174) u1_i212 u1_i213 (A 136) (A 170) (A 171) (G 0) u1_g2 u1_g3 := (by rcases hf1 with ⟨_, _, _, _, _, _, w9⟩ | ⟨_, _, w1, w2, w3, w4⟩; (· exact (cc_l (Q := Q) hcc c9 (by omega) c1 c3 c4 c6 w9).1); (· rw [w1, w2, w3, w4]; exact hcc)); exact ⟨q1, hs4, hq9, q5⟩) hP hD hS
