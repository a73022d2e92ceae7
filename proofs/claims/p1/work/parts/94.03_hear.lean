set_option maxHeartbeats 4000000 in
set_option maxRecDepth 100000 in
theorem lc_3 {p : Program} {e : Env} {s : State} {m : MethodId} {below : List Frame} {meth : Method} {c : Code} (l : Launch) {b : Nat} {xs : Nat → Int32} (C0 : lw_At p s m meth c b 5 xs) {dC : Nat → ClassId} {dI : Nat → Nat → Nat} {h k : Nat → Nat} {cs : Nat → ClassId} (hK : va_K (dC, dI) vwCl (tysA cs) s) (hN : nestA s) {H : Heap} {locs : List Loc} {ls : Array Slot} (hP : va_P (dC, dI) vwCl (wAll h cs fI fL fA fQ fG fJ ++ rW k cs gI gL gA gQ) H) (hD : va_D (fun q : Nat => s.heap.size ≤ q) (wAll h cs fI fL fA fQ fG fJ ++ rW k cs gI gL gA gQ)) (hS : va_S (fun q : Nat => s.heap.size ≤ q) s.heap H locs) (hl : lv_has ls 4 [(3, .int (nI 0)), (2, .ref (k 0)), (1, .ref (h 100)), (0, .ref b)]) : W p l e room_1 s m #[Value.ref b] below meth c H locs 1000 10000 (lw_Z below #[Value.ref b] s) (F0 m 251 ls []) := by
  obtain ⟨hx, hb, hr, hml, hown, htbl, hX, hbl, hlocks, hgv⟩ := id C0
  have hown : s.vm.findClass RL = some m.cls := hown
  have hts : ∀ w ∈ wsL_law, w.before #[Value.ref b] s = true := fun w hw => htbl w (wsL_law_in w hw)
  have hA : ∀ q : Nat, s.heap.size ≤ q → (fun q : Nat => s.heap.size ≤ q) q := fun _ h => h
  have hbA : ¬ (fun q : Nat => s.heap.size ≤ q) b := Nat.not_le.mpr hbl
  refine lv_aload_n hx hb dL_law_251 rfl (lv_at hl 2 rfl) ?_
  refine lv_aload_n hx hb dL_law_252 rfl (lv_at hl 3 rfl) ?_
  refine lv_iload_n hx hb dL_law_253 rfl (lv_at hl 0 rfl) ?_
  refine lv_iconst (v := nI 1) hx hb dL_law_254 (by decide) ?_
  refine lv_iadd hx hb dL_law_255 ?_
  refine xt_i (y := nI 1) (by decide +kernel) ?_
  refine xa_sld (k := 1) hx hb hX hbl hbA hS (by decide) (by decide) dL_law_256 ?_
  refine lv_aload_n hx hb dL_law_257 rfl (lv_at hl 3 rfl) ?_
  refine lv_iload_n hx hb dL_law_258 rfl (lv_at hl 0 rfl) ?_
  refine lv_iconst (v := nI 2) hx hb dL_law_259 (by decide) ?_
  refine lv_iadd hx hb dL_law_260 ?_
  refine xt_i (y := nI 2) (by decide +kernel) ?_
  refine xa_sld (k := 2) hx hb hX hbl hbA hS (by decide) (by decide) dL_law_261 ?_
  refine xj_i (wc := (wF1 h cs fI fL fA fQ fG fJ)) (wr := (rW k cs gI gL gA gQ)) hP hD hS hA [0, 9, 10, 11, 12, 13, 1, 2, 3, 4, 5, 6, 7, 8] [62, 63, 64, 65, 66, 67, 68, 69, 70, 71, 72, 73, 74, 75, 76, 77, 78] rfl rfl (by decide) (by decide) (va_runV (As := [.int (xs 1), .int (xs 2)]) (rest := []) ⟨hx, hb, hml, hown, hts⟩ (k_X9_hear l dC dI h cs H.size fI fL fA fQ fG fJ (xs 1) (xs 2) 2 2 1 0 0 (by decide +kernel) (by decide +kernel) (by decide +kernel) (by decide +kernel) (by decide +kernel) (by decide +kernel) (by decide +kernel) (by decide +kernel) (by decide +kernel) (by decide +kernel) (by decide +kernel) (by decide +kernel)) (cwV 2 hts gL_law_X9_hear rfl rfl rfl (by decide +kernel) ⟨Nat.le_of_ble_eq_true rfl, Nat.le_of_ble_eq_true rfl⟩) (xpV (wc := (wF1 h cs fI fL fA fQ fG fJ)) hP hD hK hN [0, 9, 10, 11, 12, 13, 1, 2, 3, 4, 5, 6, 7, 8] rfl (by decide) 0 (ci := 9) rfl rfl _) rfl rfl hl.1 rfl (lv_room (Nat.le_of_ble_eq_true rfl)) dL_law_262 ⟨Nat.le_of_ble_eq_true rfl, Nat.le_of_ble_eq_true rfl⟩) (fun r1 u1 H locs hw1 hP hD hS => ?_)
  obtain ⟨_, _, _, _, _, _, _, _, _, _, hf1, -⟩ := hw1
  have hP : va_P (dC, dI) vwCl (rW k cs gI gL gA gQ) H := xP_sub hP [0, 1, 2, 3, 4, 5, 6, 7, 8, 9, 10, 11, 12, 13, 14, 15, 16] rfl
  have hD : va_D (fun q : Nat => s.heap.size ≤ q) (rW k cs gI gL gA gQ) := hD.sub [0, 1, 2, 3, 4, 5, 6, 7, 8, 9, 10, 11, 12, 13, 14, 15, 16] (by decide) rfl
  refine lv_aload_n hx hb dL_law_265 rfl (lv_at hl 1 rfl) ?_
  refine lv_aload_n hx hb dL_law_266 rfl (lv_at hl 3 rfl) ?_
  refine lv_iload_n hx hb dL_law_267 rfl (lv_at hl 0 rfl) ?_
  refine lv_iconst (v := nI 1) hx hb dL_law_268 (by decide) ?_
  refine lv_iadd hx hb dL_law_269 ?_
  refine xt_i (y := nI 1) (by decide +kernel) ?_
  refine xa_sld (k := 1) hx hb hX hbl hbA hS (by decide) (by decide) dL_law_270 ?_
  refine lv_aload_n hx hb dL_law_271 rfl (lv_at hl 3 rfl) ?_
  refine lv_iload_n hx hb dL_law_272 rfl (lv_at hl 0 rfl) ?_
  refine lv_iconst (v := nI 2) hx hb dL_law_273 (by decide) ?_
  refine lv_iadd hx hb dL_law_274 ?_
  refine xt_i (y := nI 2) (by decide +kernel) ?_
  refine xa_sld (k := 2) hx hb hX hbl hbA hS (by decide) (by decide) dL_law_275 ?_
  refine xj_i (wc := (rW k cs gI gL gA gQ)) (wr := ([] : va_W)) hP hD hS hA [0, 1, 2, 3, 4, 5, 6, 7, 8, 9, 10, 11, 12, 13, 14, 15, 16] [] rfl rfl (by decide) (by decide) (va_runV (As := [.int (xs 1), .int (xs 2)]) (rest := [.int r1]) ⟨hx, hb, hml, hown, hts⟩ (k_X10_hear l dC dI k cs H.size gI gL gA gQ (xs 1) (xs 2) 2 2 0 (by decide +kernel) (by decide +kernel) (by decide +kernel) (by decide +kernel) (by decide +kernel) (by decide +kernel) (by decide +kernel) (by decide +kernel)) (cwV 2 hts gL_law_X10_hear rfl rfl rfl (by decide +kernel) ⟨Nat.le_of_ble_eq_true rfl, Nat.le_of_ble_eq_true rfl⟩) (xpV (wc := (rW k cs gI gL gA gQ)) hP hD hK hN [0, 1, 2, 3, 4, 5, 6, 7, 8, 9, 10, 11, 12, 13, 14, 15, 16] rfl (by decide) 0 (ci := 10) rfl rfl _) rfl rfl hl.1 rfl (lv_room (Nat.le_of_ble_eq_true rfl)) dL_law_276 ⟨Nat.le_of_ble_eq_true rfl, Nat.le_of_ble_eq_true rfl⟩) (fun r2 u2 H locs hw2 hP hD hS => ?_)
  obtain ⟨_, _, _, _, _, _, hf2, -⟩ := hw2
  have e9 : r1 = r2 := by
      rcases hf1 with ⟨i, hi, e1, hv, h1, -⟩ | ⟨h1, hn, -⟩ <;> rcases hf2 with ⟨i', hi', e1', hv', h2, -⟩ | ⟨h2, hn', -⟩
      · rw [h1, h2]; unfold atF; split <;> rfl
      · exact (hn' i hi e1 hv).elim
      · exact (hn i' hi' e1' hv').elim
      · rw [h1, h2]
  refine lv_icmp_eq (tgt := 892) hx hb dL_law_279 (by decide) (fun _ => ?_) (fun c9 => absurd e9 c9)
  exact law_end l C0 hS hl
