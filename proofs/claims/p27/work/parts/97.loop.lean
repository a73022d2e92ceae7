theorem law_out {p : Program} {e : Env} {s : State} {m : MethodId} {below : List Frame} {meth : Method} {c : Code} (l : Launch) {b N0 : Nat} {xs : Nat → Int32} (C0 : lw_At p s m meth c b N0 xs) {H : Heap} {locs : List Loc} {ls : Array Slot} (hS : va_S (fun q : Nat => s.heap.size ≤ q) s.heap H locs) : W p l e room_1 s m #[Value.ref b] below meth c H locs 1000 10000 (lw_Z below #[Value.ref b] s) (F0 m 896 ls []) := by
  obtain ⟨hx, hb, hr, hml, hown, hts, hX, hbl, hlocks, hgv⟩ := id C0
  refine lv_iconst (v := 1) hx hb dL_law_896 (by decide) ?_
  refine va_forget (fun q hq => hS.2.2 q hq) ?_
  refine W.widen (k := 600000) (n := 7302249) (by decide) (by decide) ?_
  exact lw_ret hx hb hr hlocks dL_law_897
set_option maxHeartbeats 4000000 in
set_option maxRecDepth 100000 in
theorem law_loop {p : Program} {e : Env} {s : State} {m : MethodId} {below : List Frame} {meth : Method} {c : Code} (l : Launch) {b N0 : Nat} {xs : Nat → Int32} (hL : N0 ≤ 2560) (C0 : lw_At p s m meth c b N0 xs) {dC : Nat → ClassId} {dI : Nat → Nat → Nat} {h k : Nat → Nat} {cs : Nat → ClassId} (hK : va_K (dC, dI) vwCl (tysA cs) s) (hN : nestA s)    : ∀ (nf t : Nat) (I : Nat → Int32) (L : Nat → Int64) (A : Nat → Nat → Int32) (Q : Nat → Nat → Int64) (G : Nat → Nat → Nat → Int32) (J : Nat → Nat → Nat → Int64) (rI : Nat → Int32) (rL : Nat → Int64) (rA : Nat → Nat → Int32) (rQ : Nat → Nat → Int64) (H : Heap) (locs : List Loc) (ls : Array Slot), N0 + 5 - 5 * t < nf → 5 * t ≤ N0 → JS t I A Q G rI rA → va_P (dC, dI) vwCl (wAll h cs I L A Q G J ++ rW k cs rI rL rA rQ) H → va_D (fun q : Nat => s.heap.size ≤ q) (wAll h cs I L A Q G J ++ rW k cs rI rL rA rQ) → va_S (fun q : Nat => s.heap.size ≤ q) s.heap H locs → lv_has ls 4 [(3, .int (nI (5 * t))), (2, .ref (k 0)), (1, .ref (h 100)), (0, .ref b)] → W p l e room_1 s m #[Value.ref b] below meth c H locs 1000 10000 (lw_Z below #[Value.ref b] s) (F0 m 18 ls []) := by
  obtain ⟨hx, hb, hr0, hml, hown, htbl, hX, hbl, hlocks, hgv⟩ := id C0
  have hbA : ¬ (fun q : Nat => s.heap.size ≤ q) b := Nat.not_le.mpr hbl
  intro nf
  induction nf with
  | zero => intro t I L A Q G J rI rL rA rQ H locs ls hm; exact absurd hm (Nat.not_lt_zero _)
  | succ nf ih =>
    intro t I L A Q G J rI rL rA rQ H locs ls hm ht0 hJ hP hD hS hl
    refine lv_iload_n hx hb dL_law_18 rfl (lv_at hl 0 rfl) ?_
    refine lv_aload_n hx hb dL_law_19 rfl (lv_at hl 3 rfl) ?_
    refine va_slen hx hb hX hbl hbA hS dL_law_20 ?_
    refine lv_iconst (v := nI 5) hx hb dL_law_21 (by decide) ?_
    refine lv_isub hx hb dL_law_22 ?_
    refine lv_icmp_gt (tgt := 896) hx hb dL_law_23 (by decide) (fun _ => law_out l C0 hS) (fun c9 => ?_)
    have ht : 5 * t + 5 ≤ N0 := by
      rcases Nat.lt_or_ge N0 (5 * t + 5) with g | g
      · exact absurd ((lp_cmp hL (by omega)).mpr g) c9
      · exact g
    have kk : ∀ (I : Nat → Int32) (L : Nat → Int64) (A : Nat → Nat → Int32) (Q : Nat → Nat → Int64) (G : Nat → Nat → Nat → Int32) (J : Nat → Nat → Nat → Int64) (rI : Nat → Int32) (rL : Nat → Int64) (rA : Nat → Nat → Int32) (rQ : Nat → Nat → Int64) (H : Heap) (locs : List Loc), JS (t + 1) I A Q G rI rA → va_P (dC, dI) vwCl (wAll h cs I L A Q G J ++ rW k cs rI rL rA rQ) H → va_D (fun q : Nat => s.heap.size ≤ q) (wAll h cs I L A Q G J ++ rW k cs rI rL rA rQ) → va_S (fun q : Nat => s.heap.size ≤ q) s.heap H locs → W p l e room_1 s m #[Value.ref b] below meth c H locs 1000 10000 (lw_Z below #[Value.ref b] s) (F0 m 890 ls []) := by
      intro I L A Q G J rI rL rA rQ H locs hJ hP hD hS
      refine lv_iinc (v := nI (5 * (t + 1))) (lv' := [(3, .int (nI (5 * (t + 1)))), (2, .ref (k 0)), (1, .ref (h 100)), (0, .ref b)]) hx hb dL_law_890 hl (k := 0) rfl (nI_add _ 5) (by decide) rfl (fun ls hl => ?_)
      refine lv_goto (tgt := 18) hx hb dL_law_893 (by decide) ?_
      exact ih (t + 1) _ _ _ _ _ _ _ _ _ _ _ _ _ (by omega) (by omega) hJ hP hD hS hl
    refine lv_aload_n hx hb dL_law_26 rfl (lv_at hl 3 rfl) ?_
    refine lv_iload_n hx hb dL_law_27 rfl (lv_at hl 0 rfl) ?_
    refine xa_sld (k := 5 * t) hx hb hX hbl hbA hS (by omega) (by omega) dL_law_28 ?_
    refine lv_bipush (v := nI 31) hx hb dL_law_29 (by decide) ?_
    refine lv_iand hx hb dL_law_31 ?_
    rcases splR (xs (5 * t) &&& nI 31) 0 25 (by decide) with ⟨i, -, hi, e9⟩ | hz
    · refine xt_i (y := nI i) e9 ?_
      rcases (show i = 0 ∨ i = 1 ∨ i = 2 ∨ i = 3 ∨ i = 4 ∨ i = 5 ∨ i = 6 ∨ i = 7 ∨ i = 8 ∨ i = 9 ∨ i = 10 ∨ i = 11 ∨ i = 12 ∨ i = 13 ∨ i = 14 ∨ i = 15 ∨ i = 16 ∨ i = 17 ∨ i = 18 ∨ i = 19 ∨ i = 20 ∨ i = 21 ∨ i = 22 ∨ i = 23 ∨ i = 24 ∨ i = 25 by omega) with rfl | rfl | rfl | rfl | rfl | rfl | rfl | rfl | rfl | rfl | rfl | rfl | rfl | rfl | rfl | rfl | rfl | rfl | rfl | rfl | rfl | rfl | rfl | rfl | rfl | rfl
      · refine lv_tableIn (tgt := 152) (off := 120) hx hb dL_law_32 (by decide +kernel) (by decide +kernel) (by decide +kernel) (by decide) ?_
        exact lc_0 l hL ht C0 hK hN hJ hP hD hS hl kk
      · refine lv_tableIn (tgt := 185) (off := 153) hx hb dL_law_32 (by decide +kernel) (by decide +kernel) (by decide +kernel) (by decide) ?_
        exact lc_1 l hL ht C0 hK hN hJ hP hD hS hl kk
      · refine lv_tableIn (tgt := 208) (off := 176) hx hb dL_law_32 (by decide +kernel) (by decide +kernel) (by decide +kernel) (by decide) ?_
        exact lc_2 l hL ht C0 hK hN hJ hP hD hS hl kk
      · refine lv_tableIn (tgt := 251) (off := 219) hx hb dL_law_32 (by decide +kernel) (by decide +kernel) (by decide +kernel) (by decide) ?_
        exact lc_3 l hL ht C0 hK hN hJ hP hD hS hl kk
      · refine lv_tableIn (tgt := 284) (off := 252) hx hb dL_law_32 (by decide +kernel) (by decide +kernel) (by decide +kernel) (by decide) ?_
        exact lc_4 l hL ht C0 hK hN hJ hP hD hS hl kk
      · refine lv_tableIn (tgt := 297) (off := 265) hx hb dL_law_32 (by decide +kernel) (by decide +kernel) (by decide +kernel) (by decide) ?_
        exact lc_5 l hL ht C0 hK hN hJ hP hD hS hl kk
      · refine lv_tableIn (tgt := 310) (off := 278) hx hb dL_law_32 (by decide +kernel) (by decide +kernel) (by decide +kernel) (by decide) ?_
        exact lc_6 l hL ht C0 hK hN hJ hP hD hS hl kk
      · refine lv_tableIn (tgt := 343) (off := 311) hx hb dL_law_32 (by decide +kernel) (by decide +kernel) (by decide +kernel) (by decide) ?_
        exact lc_7 l hL ht C0 hK hN hJ hP hD hS hl kk
      · refine lv_tableIn (tgt := 406) (off := 374) hx hb dL_law_32 (by decide +kernel) (by decide +kernel) (by decide +kernel) (by decide) ?_
        exact lc_8 l hL ht C0 hK hN hJ hP hD hS hl kk
      · refine lv_tableIn (tgt := 419) (off := 387) hx hb dL_law_32 (by decide +kernel) (by decide +kernel) (by decide +kernel) (by decide) ?_
        exact lc_9 l hL ht C0 hK hN hJ hP hD hS hl kk
      · refine lv_tableIn (tgt := 442) (off := 410) hx hb dL_law_32 (by decide +kernel) (by decide +kernel) (by decide +kernel) (by decide) ?_
        exact lc_10 l hL ht C0 hK hN hJ hP hD hS hl kk
      · refine lv_tableIn (tgt := 465) (off := 433) hx hb dL_law_32 (by decide +kernel) (by decide +kernel) (by decide +kernel) (by decide) ?_
        exact lc_11 l hL ht C0 hK hN hJ hP hD hS hl kk
      · refine lv_tableIn (tgt := 498) (off := 466) hx hb dL_law_32 (by decide +kernel) (by decide +kernel) (by decide +kernel) (by decide) ?_
        exact lc_12 l hL ht C0 hK hN hJ hP hD hS hl kk
      · refine lv_tableIn (tgt := 531) (off := 499) hx hb dL_law_32 (by decide +kernel) (by decide +kernel) (by decide +kernel) (by decide) ?_
        exact lc_13 l hL ht C0 hK hN hJ hP hD hS hl kk
      · refine lv_tableIn (tgt := 554) (off := 522) hx hb dL_law_32 (by decide +kernel) (by decide +kernel) (by decide +kernel) (by decide) ?_
        exact lc_14 l hL ht C0 hK hN hJ hP hD hS hl kk
      · refine lv_tableIn (tgt := 567) (off := 535) hx hb dL_law_32 (by decide +kernel) (by decide +kernel) (by decide +kernel) (by decide) ?_
        exact lc_15 l hL ht C0 hK hN hJ hP hD hS hl kk
      · refine lv_tableIn (tgt := 600) (off := 568) hx hb dL_law_32 (by decide +kernel) (by decide +kernel) (by decide +kernel) (by decide) ?_
        exact lc_16 l hL ht C0 hK hN hJ hP hD hS hl kk
      · refine lv_tableIn (tgt := 613) (off := 581) hx hb dL_law_32 (by decide +kernel) (by decide +kernel) (by decide +kernel) (by decide) ?_
        exact lc_17 l hL ht C0 hK hN hJ hP hD hS hl kk
      · refine lv_tableIn (tgt := 636) (off := 604) hx hb dL_law_32 (by decide +kernel) (by decide +kernel) (by decide +kernel) (by decide) ?_
        exact lc_18 l hL ht C0 hK hN hJ hP hD hS hl kk
      · refine lv_tableIn (tgt := 649) (off := 617) hx hb dL_law_32 (by decide +kernel) (by decide +kernel) (by decide +kernel) (by decide) ?_
        exact lc_19 l hL ht C0 hK hN hJ hP hD hS hl kk
      · refine lv_tableIn (tgt := 692) (off := 660) hx hb dL_law_32 (by decide +kernel) (by decide +kernel) (by decide +kernel) (by decide) ?_
        exact lc_20 l hL ht C0 hK hN hJ hP hD hS hl kk
      · refine lv_tableIn (tgt := 705) (off := 673) hx hb dL_law_32 (by decide +kernel) (by decide +kernel) (by decide +kernel) (by decide) ?_
        exact lc_21 l hL ht C0 hK hN hJ hP hD hS hl kk
      · refine lv_tableIn (tgt := 728) (off := 696) hx hb dL_law_32 (by decide +kernel) (by decide +kernel) (by decide +kernel) (by decide) ?_
        exact lc_22 l hL ht C0 hK hN hJ hP hD hS hl kk
      · refine lv_tableIn (tgt := 771) (off := 739) hx hb dL_law_32 (by decide +kernel) (by decide +kernel) (by decide +kernel) (by decide) ?_
        exact lc_23 l hL ht C0 hK hN hJ hP hD hS hl kk
      · refine lv_tableIn (tgt := 794) (off := 762) hx hb dL_law_32 (by decide +kernel) (by decide +kernel) (by decide +kernel) (by decide) ?_
        exact lc_24 l hL ht C0 hK hN hJ hP hD hS hl kk
      · refine lv_tableIn (tgt := 847) (off := 815) hx hb dL_law_32 (by decide +kernel) (by decide +kernel) (by decide +kernel) (by decide) ?_
        exact lc_25 l hL ht C0 hK hN hJ hP hD hS hl kk
    · refine lv_tableOut (tgt := 890) hx hb dL_law_32 (by omega) (by decide) ?_
      refine kk I L A Q G J rI rL rA rQ H locs ?_ hP hD hS
      obtain ⟨⟨R, M, a, sp, o, bk, on, T, hc, hr, ht9, ha9, hp9, h99⟩, hs4, hq9, hcc⟩ := hJ
      exact ⟨jx_same (Q := Q) hc hr ht9 ha9 hp9 h99, hs4, hq9, hcc⟩
