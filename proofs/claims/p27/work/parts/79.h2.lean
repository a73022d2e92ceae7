theorem wrg_n {w : Int32} {q : Nat} (hq : q < 2147483648) : ¬ wrg w q < 0 := by
  unfold wrg
  split
  · exact nI_pos (show q < 2 ^ 31 by omega)
  · assumption
theorem wrg_e {w x : Int32} {q : Nat} (hq : q < 2147483648) (h : x = if w < 0 then nI q else w) : ¬ x < 0 := by
  rw [h]
  exact wrg_n hq
theorem numP_ok {t : Nat → Int32} {T a a2 : Nat} {w w2 v : Int32} (hT : T ≤ 90) (h : numP t T a w a2 w2 v) (hw : w2 < 0) : w < 0 ∧ b9 v := by
  obtain ⟨j1, j2, ng, -, -, hs, ⟨-, -, e, -⟩ | ⟨-, j3, hd, -, e, ev⟩⟩ := h
  · have := hs.2.1
    rw [e] at hw
    exact absurd hw (wrg_n (by omega))
  · have h2 := hs.2.1
    have hr := digV_rng (t := t) (b := j2) (j3 - j2) (fun u h1 h3 => hd.2.2.1 u h1 (by have := hd.1; omega))
    have z9 : (nI 9).toInt = 9 := by decide
    by_cases g : digV t j2 (j3 - j2) ≤ nI 9
    · rw [if_pos g] at e
      rw [Int32.le_iff_toInt_le, z9] at g
      refine ⟨e ▸ hw, ?_⟩
      rw [ev]
      unfold b9
      split
      · rw [neg32 (by omega)]
        omega
      · omega
    · rw [if_neg g] at e
      rw [e] at hw
      exact absurd hw (wrg_n (by omega))
theorem rowS_ok {t : Nat → Int32} {T mo a0 : Nat} {w0 : Int32} (hT : T ≤ 90) : ∀ (n a : Nat) (w : Int32) (vs : Nat → Int32) (more : Bool), rowS t T mo a0 w0 n a w vs more → w < 0 → ∀ i : Nat, i < n → b9 (vs i)
  | 0, _, _, _, _, _, _ => fun i hi => absurd hi (Nat.not_lt_zero i)
  | n + 1, a, w, vs, more, h, hw => fun i hi => by
    obtain ⟨ap, wp, vp, hr, an, v, hn, hvs, hv, -⟩ := h
    obtain ⟨hwp, hb⟩ := numP_ok hT hn hw
    by_cases e : i = n
    · rw [e, hv]
      exact hb
    · rw [hvs i (by omega)]
      exact rowS_ok hT n ap wp vp true hr hwp i (by omega)
theorem rd_b {f g : Nat → Int32} {rr cc n : Nat} (hk : ∀ q : Nat, q < 4 * rr → f q = g q) (ho : ∀ i j : Nat, i < rr → j < cc → b9 (g (4 * i + j))) (hr : ∀ i : Nat, i < n → b9 (f (4 * rr + i))) (hc : cc ≤ n) (hn : n ≤ 4) : ∀ i j : Nat, i < rr + 1 → j < cc → b9 (f (4 * i + j)) := fun i j hi hj => by
  by_cases e : i = rr
  · rw [e]
    exact hr j (by omega)
  · rw [hk (4 * i + j) (by omega)]
    exact ho i j (by omega) hj
theorem b9_upd {t : Nat → Int32} {p : Nat} {v : Int32} (h : ∀ q : Nat, q < 25 → b9 (t q)) (hv : b9 v) : ∀ q : Nat, q < 25 → b9 (upd t p v q) := fun q hq => by
  by_cases e : q = p
  · rw [e, pk_us]
    exact hv
  · rw [pk_un e]
    exact h q hq
theorem b9_0 {t : Nat → Int32} (h : ∀ q : Nat, q < 25 → t q = nI 0) : ∀ q : Nat, q < 25 → b9 (t q) := fun q hq => by
  rw [h q hq]
  unfold b9
  decide

def Hid9 (p : Prop) : Prop := p
theorem tp_c {t : Nat → Int32} {T j k : Nat} (hk : 0 < k) (hk2 : k < 256) : tpAt t T j = nI k ↔ isC t T j k := by
  unfold tpAt isC
  by_cases g : j < T
  · rw [if_pos g]
    exact ⟨fun h => ⟨g, h⟩, fun h => h.2⟩
  · rw [if_neg g]
    exact ⟨fun h => absurd ((nI_eq (by omega) (by omega)).mp h) (by omega), fun h => absurd h.1 g⟩
theorem tp_d {t : Nat → Int32} {T j : Nat} : IsDig (tpAt t T j) ↔ (j < T ∧ IsDig (t j)) := by
  unfold tpAt
  by_cases g : j < T
  · rw [if_pos g]
    exact ⟨fun h => ⟨g, h⟩, fun h => h.2⟩
  · rw [if_neg g]
    exact ⟨fun h => absurd h.1 (by decide), fun h => absurd h.1 g⟩
theorem numP_nm {t : Nat → Int32} {T a a2 : Nat} {w w2 v : Int32} (hT : T ≤ 90) (h : numP t T a w a2 w2 v) (hw : w < 0) : (w2 = w ∧ nmOk t T a a2 v) ∨ ∃ q : Nat, q ≤ T ∧ w2 = nI q ∧ nmBad t T a q := by
  obtain ⟨j1, j2, ng, h1, h2, h3, ⟨h4, e1, e2, -⟩ | ⟨h4, j3, hd, e1, e2, ev⟩⟩ := h
  · refine Or.inr ⟨j2, h3.2.1, ?_, j1, ng, h1, h2.trans (tp_c (by decide) (by decide)), h3, Or.inl (fun g => h4 (tp_d.mpr g))⟩
    rw [e2, wrg, if_pos hw]
  · by_cases g : digV t j2 (j3 - j2) ≤ nI 9
    · rw [if_pos g] at e2
      subst e1
      exact Or.inl ⟨e2, j1, j2, ng, h1, h2.trans (tp_c (by decide) (by decide)), h3, tp_d.mp h4, hd, g, ev⟩
    · rw [if_neg g] at e2
      refine Or.inr ⟨j2, h3.2.1, ?_, j1, ng, h1, h2.trans (tp_c (by decide) (by decide)), h3, Or.inr ⟨j3, hd, g⟩⟩
      rw [e2, wrg, if_pos hw]
theorem rowS_t {t : Nat → Int32} {T mo a0 : Nat} {w0 : Int32} (hw : w0 < 0) : ∀ (n a : Nat) (w : Int32) (vs : Nat → Int32), rowS t T mo a0 w0 n a w vs true → w < 0
  | 0, _, _, _, h => h.2.1 ▸ hw
  | n + 1, a, w, vs, h => by
    obtain ⟨ap, wp, vp, -, an, v, -, -, -, ⟨-, h1, -⟩ | ⟨h1, -⟩⟩ := h
    · exact absurd h1 (by decide)
    · exact Int32.not_le.mp h1
def gV (h : Nat) (g : Nat → Nat → Int32) (vs : Nat → Int32) : Nat → Nat → Int32 := fun i j => if i = h then vs j else g i j
/-- behind a row, or within it: what is known of the whole -/
def KM (t : Nat → Int32) (T n h w r a : Nat) (g : Nat → Nat → Int32) : Prop := ∀ (res : Int32) (H W : Nat) (V : Nat → Nat → Int32), (∀ i j : Nat, (i < h ∧ j < w) ∨ (i = h ∧ j < r) → V i j = g i j) → pM t T (fun h w r p => pR t T (20 - n) h w r p res H W V) h w r a res H W → pR t T 20 0 0 0 0 res H W V
theorem KP_KM {t : Nat → Int32} {T n h w r p p3 j : Nat} {v : Int32} {g g2 : Nat → Nat → Int32} (hn : n < 20) (k : KP t T n h w r p g) (ho : nmOk t T p p3 v) (hs : IsSkip t T p3 j) (h1 : ∀ i c : Nat, (i < h ∧ c < w) ∨ (i = h ∧ c < r) → g2 i c = g i c) (h2 : g2 h r = v) : KM t T (n + 1) h w (r + 1) j g2 := fun res H W V hV hm => k _ _ _ _ (fun i c hc => by
  rw [hV i c (by omega)]
  exact h1 i c hc) (by
  rw [show 20 - n = (20 - (n + 1)) + 1 by omega]
  exact Or.inr ⟨p3, v, j, ho, by rw [hV h r (by omega)]; exact h2, hs, hm⟩)
theorem KP_q {t : Nat → Int32} {T n h w r p : Nat} {g g2 : Nat → Nat → Int32} (k : KP t T n h w r p g) (e : ∀ i c : Nat, (i < h ∧ c < w) ∨ (i = h ∧ c < r) → g2 i c = g i c) : KP t T n h w r p g2 := fun res H W V hV hp => k res H W V (fun i c hc => (hV i c hc).trans (e i c hc)) hp
theorem KM_com {t : Nat → Int32} {T n h w r j : Nat} {g : Nat → Nat → Int32} (k : KM t T n h w r j g) (h2 : isC t T j 44) (h3 : r < (if h = 0 then 4 else w)) : KP t T n h w r (j + 1) g := fun res H W V hV hp => k res H W V hV (Or.inr (Or.inl ⟨⟨h2, h3⟩, hp⟩))
theorem KM_sem {t : Nat → Int32} {T n h w r j : Nat} {g : Nat → Nat → Int32} (k : KM t T n h w r j g) (h2 : isC t T j 59) (hw : h = 0 ∨ r = w) (h4 : h < 4) : KP t T n (h + 1) r 0 (j + 1) g := fun res H W V hV hp => k res H W V (fun i c hc => hV i c (by omega)) (Or.inr (Or.inr (Or.inl ⟨⟨h2, hw, h4⟩, hp⟩)))
theorem KM_end {t : Nat → Int32} {T n h w r j : Nat} {g : Nat → Nat → Int32} (k : KM t T n h w r j g) (hj : ¬ j < T) (hw : h = 0 ∨ r = w) : pR t T 20 0 0 0 0 (nI 0) (h + 1) r g := k _ _ _ _ (fun _ _ _ => rfl) (Or.inl ⟨⟨hj, hw⟩, rfl, rfl, rfl⟩)
theorem KM_flt {t : Nat → Int32} {T n h w r j : Nat} {g : Nat → Nat → Int32} (k : KM t T n h w r j g) (h1 : ¬ (¬ j < T ∧ (h = 0 ∨ r = w))) (h2 : ¬ (isC t T j 44 ∧ r < (if h = 0 then 4 else w))) (h3 : ¬ (isC t T j 59 ∧ (h = 0 ∨ r = w) ∧ h < 4)) : pR t T 20 0 0 0 0 (-20 - nI j) 0 0 g := k _ _ _ _ (fun _ _ _ => rfl) (Or.inr (Or.inr (Or.inr ⟨h1, h2, h3, rfl⟩)))
theorem rowS_K {t : Nat → Int32} {T mo a0 n0 h w : Nat} {w0 : Int32} {g : Nat → Nat → Int32} (hT : T ≤ 90) (hw : w0 < 0) (hmo : mo = if h = 0 then 4 else w) (hn0 : n0 + mo ≤ 20) (hk : KP t T n0 h w 0 a0 g) : ∀ (n a : Nat) (wv : Int32) (vs : Nat → Int32) (more : Bool), n ≤ mo → rowS t T mo a0 w0 n a wv vs more → (more = true → n < mo → KP t T (n0 + n) h w n a (gV h g vs)) ∧ (more = false → (0 ≤ wv ∧ ∃ q : Nat, q ≤ T ∧ wv = nI q ∧ pR t T 20 0 0 0 0 (-20 - nI q) 0 0 (gV h g vs)) ∨ (wv < 0 ∧ 1 ≤ n ∧ IsSkip t T a a ∧ ¬ (isC t T a 44 ∧ n < mo) ∧ KM t T (n0 + n) h w n a (gV h g vs)))
  | 0, a, wv, vs, more, _, hr => by
    obtain ⟨e1, e2, e3⟩ := hr
    refine ⟨fun _ _ => ?_, fun e => absurd (e3.symm.trans e) (by decide)⟩
    rw [e1]
    exact KP_q hk (fun i c hc => by rw [gV, if_neg (by omega)])
  | n + 1, a, wv, vs, more, hn, hr => by
    obtain ⟨ap, wp, vp, hp, an, v, hnum, hvs, hv, hc⟩ := hr
    have hwp := rowS_t hw n ap wp vp hp
    have ih := (rowS_K hT hw hmo hn0 hk n ap wp vp true (by omega) hp).1 rfl (by omega)
    have ag : ∀ i c : Nat, (i < h ∧ c < w) ∨ (i = h ∧ c < n) → gV h g vs i c = gV h g vp i c := fun i c hc => by
      unfold gV
      split
      · exact hvs c (by omega)
      · rfl
    rcases numP_nm hT hnum hwp with ⟨e1, hok⟩ | ⟨q, hq, e1, hbad⟩
    · rcases hc with ⟨c1, -, -⟩ | ⟨-, jn, hs, hc⟩
      · exact absurd (e1 ▸ hwp) (Int32.not_lt.mpr c1)
      · have km : KM t T (n0 + n + 1) h w (n + 1) jn (gV h g vs) := KP_KM (by omega) ih hok hs ag (by rw [gV, if_pos rfl]; exact hv)
        rcases hc with ⟨d1, d2, d3, d4⟩ | ⟨d1, d2, d4⟩
        · subst d4
          refine ⟨fun _ _ => ?_, fun e => absurd (d1.symm.trans e) (by decide)⟩
          exact KM_com km ((tp_c (by decide) (by decide)).mp d2) (by rw [← hmo]; exact d3)
        · subst d4
          refine ⟨fun e => absurd (d1.symm.trans e) (by decide), fun _ => Or.inr ⟨e1 ▸ hwp, by omega, sk_id hs, fun g9 => d2 ⟨(tp_c (by decide) (by decide)).mpr g9.1, g9.2⟩, km⟩⟩
    · have hnn : 0 ≤ wv := by
        rw [e1]
        exact Int32.not_lt.mp (nI_pos (show q < 2 ^ 31 by omega))
      rcases hc with ⟨-, c2, -⟩ | ⟨c1, -⟩
      · refine ⟨fun e => absurd (c2.symm.trans e) (by decide), fun _ => Or.inl ⟨hnn, q, hq, e1, ?_⟩⟩
        have := KP_bad (by omega) (KP_q ih ag) hbad
        exact this
      · exact absurd hnn c1
theorem gV_flat {f g : Nat → Int32} {rr : Nat} {n w : Nat} (hk : ∀ q : Nat, q < 4 * rr → f q = g q) (hw : w ≤ 4) : ∀ i j : Nat, (i < rr ∧ j < w) ∨ (i = rr ∧ j < n) → (fun i j => f (4 * i + j)) i j = gV rr (fun i j => g (4 * i + j)) (fun i => f (4 * rr + i)) i j := fun i j hij => by
  unfold gV
  split
  · rename_i e
    rw [e]
  · exact hk _ (by omega)
theorem KM_q {t : Nat → Int32} {T n h w r p : Nat} {g g2 : Nat → Nat → Int32} (k : KM t T n h w r p g) (e : ∀ i c : Nat, (i < h ∧ c < w) ∨ (i = h ∧ c < r) → g2 i c = g i c) : KM t T n h w r p g2 := fun res H W V hV hp => k res H W V (fun i c hc => (hV i c hc).trans (e i c hc)) hp
theorem rd_mul {rr cc : Nat} (h : rr ≤ 4) (hc : cc ≤ 4) : rr * cc ≤ 16 := Nat.mul_le_mul h hc
theorem nz_c {t : Nat → Int32} {T j : Nat} (hf : ∀ u : Nat, u < T → ¬ t u = nI 0) : tpAt t T j = nI 0 ↔ ¬ j < T := by
  unfold tpAt
  by_cases g : j < T
  · rw [if_pos g]
    exact ⟨fun h => absurd h (hf j g), fun h => absurd g h⟩
  · rw [if_neg g]
    exact ⟨fun _ => g, fun _ => rfl⟩

theorem tw_s {t g : Nat → Int32} {cc n k : Nat} (hk : k < cc) (hc : cc ≤ 4) (hn : n < 5) (hv : ∀ a b : Nat, b < cc → (a < n ∨ (a = n ∧ b < k)) → t (5 * a + b) = g (4 * a + b)) (hh : ∀ a : Nat, a < 5 → t (5 * a + 4) = nI 0) : (∀ a b : Nat, b < cc → (a < n ∨ (a = n ∧ b < k + 1)) → upd t (plc cc n k) (g (4 * n + k)) (5 * a + b) = g (4 * a + b)) ∧ ∀ a : Nat, a < 5 → upd t (plc cc n k) (g (4 * n + k)) (5 * a + 4) = nI 0 := by
  have e : plc cc n k = 5 * n + k := by
    unfold plc
    rw [if_neg (by omega)]
  rw [e]
  refine ⟨fun a b hb hab => ?_, fun a ha => ?_⟩
  · by_cases e2 : a = n ∧ b = k
    · rw [e2.1, e2.2, pk_us]
    · rw [pk_un (by omega)]
      exact hv a b hb (by omega)
  · rw [pk_un (by omega)]
    exact hh a ha
set_option maxRecDepth 20000 in
theorem ggX10_read_X10_row : GoodIn wsX10_read wsX10_row := goodIn_r _ [14, 9, 3, 2, 1, 15, 16, 17, 13, 18, 19, 20, 5, 21, 22, 23, 24, 25, 26, 27, 28, 29, 30, 31, 32, 49, 50, 51, 52, 53, 54, 55, 56, 57, 58, 59, 60, 61, 62, 63, 64, 65, 66, 67, 68, 69, 70, 71, 72, 73, 74, 75, 76] rfl (by decide +kernel)
set_option maxRecDepth 20000 in
theorem gX10_read_X10_row : GoodIn wsX10_read (wsV RX10 146 RX10 yX10_row wsX10_row) := goodIn_app (goodIn_of _ (by decide +kernel)) ggX10_read_X10_row
set_option maxRecDepth 20000 in
theorem ggX10_read_X10_fails : GoodIn wsX10_read wsX10_fails := goodIn_r _ [32, 2, 49, 50, 51, 52, 53, 54, 55, 56, 57, 58, 59, 60, 61, 62, 63, 64, 65, 66, 67, 68, 69, 70, 71, 72, 73, 74, 75, 76] rfl (by decide +kernel)
set_option maxRecDepth 20000 in
theorem gX10_read_X10_fails : GoodIn wsX10_read (wsV RX10 133 RX10 yX10_fails wsX10_fails) := goodIn_app (goodIn_of _ (by decide +kernel)) ggX10_read_X10_fails
set_option maxRecDepth 20000 in
theorem ggX10_read_X10_next : GoodIn wsX10_read wsX10_next := goodIn_r _ [25, 1, 5, 21, 49, 50, 51, 52, 53, 54, 55, 56, 57, 58, 59, 60, 61, 62, 63, 64, 65, 66, 67, 68, 69, 70, 71, 72, 73, 74, 75, 76] rfl (by decide +kernel)
set_option maxRecDepth 20000 in
theorem gX10_read_X10_next : GoodIn wsX10_read (wsV RX10 125 RX10 yX10_next wsX10_next) := goodIn_app (goodIn_of _ (by decide +kernel)) ggX10_read_X10_next
set_option maxRecDepth 20000 in
theorem ggX10_read_X10_table : GoodIn wsX10_read wsX10_table := goodIn_r _ [36, 37, 38, 6, 7, 8, 26, 27, 13, 28, 39, 40, 41, 42, 43, 44, 49, 50, 51, 52, 53, 54, 55, 56, 57, 58, 59, 60, 61, 62, 63, 64, 65, 66, 67, 68, 69, 70, 71, 72, 73, 74, 75, 76] rfl (by decide +kernel)
set_option maxRecDepth 20000 in
theorem gX10_read_X10_table : GoodIn wsX10_read (wsV RX10 150 RX10 yX10_table wsX10_table) := goodIn_app (goodIn_of _ (by decide +kernel)) ggX10_read_X10_table
set_option maxRecDepth 20000 in
theorem ggX10_read_X10_place : GoodIn wsX10_read wsX10_place := goodIn_r _ [48, 7, 49, 50, 51, 52, 53, 54, 55, 56, 57, 58, 59, 60, 61, 62, 63, 64, 65, 66, 67, 68, 69, 70, 71, 72, 73, 74, 75, 76] rfl (by decide +kernel)
set_option maxRecDepth 20000 in
theorem gX10_read_X10_place : GoodIn wsX10_read (wsV RX10 97 RX10 yX10_place wsX10_place) := goodIn_app (goodIn_of _ (by decide +kernel)) ggX10_read_X10_place
theorem bdX10_read_0 : (decode cX10_read 0 = .ok (.aload_n 0, 1)) ∧ (decode cX10_read 1 = .ok (.iconst 0, 1)) ∧ (decode cX10_read 2 = .ok (.putfield 119, 3)) ∧ (decode cX10_read 5 = .ok (.aload_n 0, 1)) ∧ (decode cX10_read 6 = .ok (.iconst (-1), 1)) ∧ (decode cX10_read 7 = .ok (.putfield 122, 3)) ∧ (decode cX10_read 10 = .ok (.aload_n 0, 1)) ∧ (decode cX10_read 11 = .ok (.iconst 0, 1)) ∧ (decode cX10_read 12 = .ok (.putfield 137, 3)) ∧ (decode cX10_read 15 = .ok (.iconst 1, 1)) ∧ (decode cX10_read 16 = .ok (.istore_n 1, 1)) ∧ (decode cX10_read 17 = .ok (.iload_n 1, 1)) ∧ (decode cX10_read 18 = .ok (.ifCond .eq 126, 3)) ∧ (decode cX10_read 21 = .ok (.aload_n 0, 1)) ∧ (decode cX10_read 22 = .ok (.aload_n 0, 1)) ∧ (decode cX10_read 23 = .ok (.getfield 137, 3)) := by decide +kernel
theorem dX10_read_0 : decode cX10_read 0 = .ok (.aload_n 0, 1) := bdX10_read_0.1
theorem dX10_read_1 : decode cX10_read 1 = .ok (.iconst 0, 1) := bdX10_read_0.2.1
theorem dX10_read_2 : decode cX10_read 2 = .ok (.putfield 119, 3) := bdX10_read_0.2.2.1
theorem dX10_read_5 : decode cX10_read 5 = .ok (.aload_n 0, 1) := bdX10_read_0.2.2.2.1
theorem dX10_read_6 : decode cX10_read 6 = .ok (.iconst (-1), 1) := bdX10_read_0.2.2.2.2.1
theorem dX10_read_7 : decode cX10_read 7 = .ok (.putfield 122, 3) := bdX10_read_0.2.2.2.2.2.1
theorem dX10_read_10 : decode cX10_read 10 = .ok (.aload_n 0, 1) := bdX10_read_0.2.2.2.2.2.2.1
theorem dX10_read_11 : decode cX10_read 11 = .ok (.iconst 0, 1) := bdX10_read_0.2.2.2.2.2.2.2.1
theorem dX10_read_12 : decode cX10_read 12 = .ok (.putfield 137, 3) := bdX10_read_0.2.2.2.2.2.2.2.2.1
theorem dX10_read_15 : decode cX10_read 15 = .ok (.iconst 1, 1) := bdX10_read_0.2.2.2.2.2.2.2.2.2.1
theorem dX10_read_16 : decode cX10_read 16 = .ok (.istore_n 1, 1) := bdX10_read_0.2.2.2.2.2.2.2.2.2.2.1
theorem dX10_read_17 : decode cX10_read 17 = .ok (.iload_n 1, 1) := bdX10_read_0.2.2.2.2.2.2.2.2.2.2.2.1
theorem dX10_read_18 : decode cX10_read 18 = .ok (.ifCond .eq 126, 3) := bdX10_read_0.2.2.2.2.2.2.2.2.2.2.2.2.1
theorem dX10_read_21 : decode cX10_read 21 = .ok (.aload_n 0, 1) := bdX10_read_0.2.2.2.2.2.2.2.2.2.2.2.2.2.1
theorem dX10_read_22 : decode cX10_read 22 = .ok (.aload_n 0, 1) := bdX10_read_0.2.2.2.2.2.2.2.2.2.2.2.2.2.2.1
theorem dX10_read_23 : decode cX10_read 23 = .ok (.getfield 137, 3) := bdX10_read_0.2.2.2.2.2.2.2.2.2.2.2.2.2.2.2
theorem bdX10_read_26 : (decode cX10_read 26 = .ok (.ifCond .ne 7, 3)) ∧ (decode cX10_read 29 = .ok (.iconst 4, 1)) ∧ (decode cX10_read 30 = .ok (.goto 7, 3)) ∧ (decode cX10_read 33 = .ok (.aload_n 0, 1)) ∧ (decode cX10_read 34 = .ok (.getfield 143, 3)) ∧ (decode cX10_read 37 = .ok (.invokevirtual 146, 3)) ∧ (decode cX10_read 40 = .ok (.istore_n 2, 1)) ∧ (decode cX10_read 41 = .ok (.aload_n 0, 1)) ∧ (decode cX10_read 42 = .ok (.aload_n 0, 1)) ∧ (decode cX10_read 43 = .ok (.getfield 137, 3)) ∧ (decode cX10_read 46 = .ok (.ifCond .ne 7, 3)) ∧ (decode cX10_read 49 = .ok (.iload_n 2, 1)) ∧ (decode cX10_read 50 = .ok (.goto 7, 3)) ∧ (decode cX10_read 53 = .ok (.aload_n 0, 1)) ∧ (decode cX10_read 54 = .ok (.getfield 143, 3)) ∧ (decode cX10_read 57 = .ok (.putfield 143, 3)) := by decide +kernel
theorem dX10_read_26 : decode cX10_read 26 = .ok (.ifCond .ne 7, 3) := bdX10_read_26.1
theorem dX10_read_29 : decode cX10_read 29 = .ok (.iconst 4, 1) := bdX10_read_26.2.1
theorem dX10_read_30 : decode cX10_read 30 = .ok (.goto 7, 3) := bdX10_read_26.2.2.1
theorem dX10_read_33 : decode cX10_read 33 = .ok (.aload_n 0, 1) := bdX10_read_26.2.2.2.1
theorem dX10_read_34 : decode cX10_read 34 = .ok (.getfield 143, 3) := bdX10_read_26.2.2.2.2.1
theorem dX10_read_37 : decode cX10_read 37 = .ok (.invokevirtual 146, 3) := bdX10_read_26.2.2.2.2.2.1
theorem dX10_read_40 : decode cX10_read 40 = .ok (.istore_n 2, 1) := bdX10_read_26.2.2.2.2.2.2.1
theorem dX10_read_41 : decode cX10_read 41 = .ok (.aload_n 0, 1) := bdX10_read_26.2.2.2.2.2.2.2.1
theorem dX10_read_42 : decode cX10_read 42 = .ok (.aload_n 0, 1) := bdX10_read_26.2.2.2.2.2.2.2.2.1
theorem dX10_read_43 : decode cX10_read 43 = .ok (.getfield 137, 3) := bdX10_read_26.2.2.2.2.2.2.2.2.2.1
theorem dX10_read_46 : decode cX10_read 46 = .ok (.ifCond .ne 7, 3) := bdX10_read_26.2.2.2.2.2.2.2.2.2.2.1
theorem dX10_read_49 : decode cX10_read 49 = .ok (.iload_n 2, 1) := bdX10_read_26.2.2.2.2.2.2.2.2.2.2.2.1
theorem dX10_read_50 : decode cX10_read 50 = .ok (.goto 7, 3) := bdX10_read_26.2.2.2.2.2.2.2.2.2.2.2.2.1
theorem dX10_read_53 : decode cX10_read 53 = .ok (.aload_n 0, 1) := bdX10_read_26.2.2.2.2.2.2.2.2.2.2.2.2.2.1
theorem dX10_read_54 : decode cX10_read 54 = .ok (.getfield 143, 3) := bdX10_read_26.2.2.2.2.2.2.2.2.2.2.2.2.2.2.1
theorem dX10_read_57 : decode cX10_read 57 = .ok (.putfield 143, 3) := bdX10_read_26.2.2.2.2.2.2.2.2.2.2.2.2.2.2.2
theorem bdX10_read_60 : (decode cX10_read 60 = .ok (.aload_n 0, 1)) ∧ (decode cX10_read 61 = .ok (.getfield 122, 3)) ∧ (decode cX10_read 64 = .ok (.ifCond .ge 19, 3)) ∧ (decode cX10_read 67 = .ok (.iload_n 2, 1)) ∧ (decode cX10_read 68 = .ok (.aload_n 0, 1)) ∧ (decode cX10_read 69 = .ok (.getfield 143, 3)) ∧ (decode cX10_read 72 = .ok (.if_icmp .ge 11, 3)) ∧ (decode cX10_read 75 = .ok (.aload_n 0, 1)) ∧ (decode cX10_read 76 = .ok (.aload_n 0, 1)) ∧ (decode cX10_read 77 = .ok (.getfield 119, 3)) ∧ (decode cX10_read 80 = .ok (.invokevirtual 133, 3)) ∧ (decode cX10_read 83 = .ok (.aload_n 0, 1)) ∧ (decode cX10_read 84 = .ok (.dup, 1)) ∧ (decode cX10_read 85 = .ok (.getfield 137, 3)) ∧ (decode cX10_read 88 = .ok (.iconst 1, 1)) ∧ (decode cX10_read 89 = .ok (.iadd, 1)) := by decide +kernel
theorem dX10_read_60 : decode cX10_read 60 = .ok (.aload_n 0, 1) := bdX10_read_60.1
theorem dX10_read_61 : decode cX10_read 61 = .ok (.getfield 122, 3) := bdX10_read_60.2.1
theorem dX10_read_64 : decode cX10_read 64 = .ok (.ifCond .ge 19, 3) := bdX10_read_60.2.2.1
theorem dX10_read_67 : decode cX10_read 67 = .ok (.iload_n 2, 1) := bdX10_read_60.2.2.2.1
theorem dX10_read_68 : decode cX10_read 68 = .ok (.aload_n 0, 1) := bdX10_read_60.2.2.2.2.1
theorem dX10_read_69 : decode cX10_read 69 = .ok (.getfield 143, 3) := bdX10_read_60.2.2.2.2.2.1
theorem dX10_read_72 : decode cX10_read 72 = .ok (.if_icmp .ge 11, 3) := bdX10_read_60.2.2.2.2.2.2.1
theorem dX10_read_75 : decode cX10_read 75 = .ok (.aload_n 0, 1) := bdX10_read_60.2.2.2.2.2.2.2.1
theorem dX10_read_76 : decode cX10_read 76 = .ok (.aload_n 0, 1) := bdX10_read_60.2.2.2.2.2.2.2.2.1
theorem dX10_read_77 : decode cX10_read 77 = .ok (.getfield 119, 3) := bdX10_read_60.2.2.2.2.2.2.2.2.2.1
theorem dX10_read_80 : decode cX10_read 80 = .ok (.invokevirtual 133, 3) := bdX10_read_60.2.2.2.2.2.2.2.2.2.2.1
theorem dX10_read_83 : decode cX10_read 83 = .ok (.aload_n 0, 1) := bdX10_read_60.2.2.2.2.2.2.2.2.2.2.2.1
theorem dX10_read_84 : decode cX10_read 84 = .ok (.dup, 1) := bdX10_read_60.2.2.2.2.2.2.2.2.2.2.2.2.1
theorem dX10_read_85 : decode cX10_read 85 = .ok (.getfield 137, 3) := bdX10_read_60.2.2.2.2.2.2.2.2.2.2.2.2.2.1
theorem dX10_read_88 : decode cX10_read 88 = .ok (.iconst 1, 1) := bdX10_read_60.2.2.2.2.2.2.2.2.2.2.2.2.2.2.1
theorem dX10_read_89 : decode cX10_read 89 = .ok (.iadd, 1) := bdX10_read_60.2.2.2.2.2.2.2.2.2.2.2.2.2.2.2
theorem bdX10_read_90 : (decode cX10_read 90 = .ok (.putfield 137, 3)) ∧ (decode cX10_read 93 = .ok (.aload_n 0, 1)) ∧ (decode cX10_read 94 = .ok (.getfield 122, 3)) ∧ (decode cX10_read 97 = .ok (.ifCond .ge 24, 3)) ∧ (decode cX10_read 100 = .ok (.aload_n 0, 1)) ∧ (decode cX10_read 101 = .ok (.invokevirtual 125, 3)) ∧ (decode cX10_read 104 = .ok (.bipush 59, 2)) ∧ (decode cX10_read 106 = .ok (.if_icmp .ne 15, 3)) ∧ (decode cX10_read 109 = .ok (.aload_n 0, 1)) ∧ (decode cX10_read 110 = .ok (.getfield 137, 3)) ∧ (decode cX10_read 113 = .ok (.iconst 5, 1)) ∧ (decode cX10_read 114 = .ok (.if_icmp .ge 7, 3)) ∧ (decode cX10_read 117 = .ok (.iconst 1, 1)) ∧ (decode cX10_read 118 = .ok (.goto 4, 3)) ∧ (decode cX10_read 121 = .ok (.iconst 0, 1)) ∧ (decode cX10_read 122 = .ok (.istore_n 1, 1)) := by decide +kernel
theorem dX10_read_90 : decode cX10_read 90 = .ok (.putfield 137, 3) := bdX10_read_90.1
theorem dX10_read_93 : decode cX10_read 93 = .ok (.aload_n 0, 1) := bdX10_read_90.2.1
theorem dX10_read_94 : decode cX10_read 94 = .ok (.getfield 122, 3) := bdX10_read_90.2.2.1
theorem dX10_read_97 : decode cX10_read 97 = .ok (.ifCond .ge 24, 3) := bdX10_read_90.2.2.2.1
theorem dX10_read_100 : decode cX10_read 100 = .ok (.aload_n 0, 1) := bdX10_read_90.2.2.2.2.1
theorem dX10_read_101 : decode cX10_read 101 = .ok (.invokevirtual 125, 3) := bdX10_read_90.2.2.2.2.2.1
theorem dX10_read_104 : decode cX10_read 104 = .ok (.bipush 59, 2) := bdX10_read_90.2.2.2.2.2.2.1
theorem dX10_read_106 : decode cX10_read 106 = .ok (.if_icmp .ne 15, 3) := bdX10_read_90.2.2.2.2.2.2.2.1
theorem dX10_read_109 : decode cX10_read 109 = .ok (.aload_n 0, 1) := bdX10_read_90.2.2.2.2.2.2.2.2.1
theorem dX10_read_110 : decode cX10_read 110 = .ok (.getfield 137, 3) := bdX10_read_90.2.2.2.2.2.2.2.2.2.1
theorem dX10_read_113 : decode cX10_read 113 = .ok (.iconst 5, 1) := bdX10_read_90.2.2.2.2.2.2.2.2.2.2.1
theorem dX10_read_114 : decode cX10_read 114 = .ok (.if_icmp .ge 7, 3) := bdX10_read_90.2.2.2.2.2.2.2.2.2.2.2.1
theorem dX10_read_117 : decode cX10_read 117 = .ok (.iconst 1, 1) := bdX10_read_90.2.2.2.2.2.2.2.2.2.2.2.2.1
theorem dX10_read_118 : decode cX10_read 118 = .ok (.goto 4, 3) := bdX10_read_90.2.2.2.2.2.2.2.2.2.2.2.2.2.1
theorem dX10_read_121 : decode cX10_read 121 = .ok (.iconst 0, 1) := bdX10_read_90.2.2.2.2.2.2.2.2.2.2.2.2.2.2.1
theorem dX10_read_122 : decode cX10_read 122 = .ok (.istore_n 1, 1) := bdX10_read_90.2.2.2.2.2.2.2.2.2.2.2.2.2.2.2
theorem bdX10_read_123 : (decode cX10_read 123 = .ok (.aload_n 0, 1)) ∧ (decode cX10_read 124 = .ok (.dup, 1)) ∧ (decode cX10_read 125 = .ok (.getfield 119, 3)) ∧ (decode cX10_read 128 = .ok (.iload_n 1, 1)) ∧ (decode cX10_read 129 = .ok (.ifCond .eq 7, 3)) ∧ (decode cX10_read 132 = .ok (.iconst 1, 1)) ∧ (decode cX10_read 133 = .ok (.goto 4, 3)) ∧ (decode cX10_read 136 = .ok (.iconst 0, 1)) ∧ (decode cX10_read 137 = .ok (.iadd, 1)) ∧ (decode cX10_read 138 = .ok (.putfield 119, 3)) ∧ (decode cX10_read 141 = .ok (.goto (-124), 3)) ∧ (decode cX10_read 144 = .ok (.aload_n 0, 1)) ∧ (decode cX10_read 145 = .ok (.getfield 122, 3)) ∧ (decode cX10_read 148 = .ok (.ifCond .ge 18, 3)) ∧ (decode cX10_read 151 = .ok (.aload_n 0, 1)) ∧ (decode cX10_read 152 = .ok (.invokevirtual 125, 3)) := by decide +kernel
theorem dX10_read_123 : decode cX10_read 123 = .ok (.aload_n 0, 1) := bdX10_read_123.1
theorem dX10_read_124 : decode cX10_read 124 = .ok (.dup, 1) := bdX10_read_123.2.1
theorem dX10_read_125 : decode cX10_read 125 = .ok (.getfield 119, 3) := bdX10_read_123.2.2.1
theorem dX10_read_128 : decode cX10_read 128 = .ok (.iload_n 1, 1) := bdX10_read_123.2.2.2.1
theorem dX10_read_129 : decode cX10_read 129 = .ok (.ifCond .eq 7, 3) := bdX10_read_123.2.2.2.2.1
theorem dX10_read_132 : decode cX10_read 132 = .ok (.iconst 1, 1) := bdX10_read_123.2.2.2.2.2.1
theorem dX10_read_133 : decode cX10_read 133 = .ok (.goto 4, 3) := bdX10_read_123.2.2.2.2.2.2.1
theorem dX10_read_136 : decode cX10_read 136 = .ok (.iconst 0, 1) := bdX10_read_123.2.2.2.2.2.2.2.1
theorem dX10_read_137 : decode cX10_read 137 = .ok (.iadd, 1) := bdX10_read_123.2.2.2.2.2.2.2.2.1
theorem dX10_read_138 : decode cX10_read 138 = .ok (.putfield 119, 3) := bdX10_read_123.2.2.2.2.2.2.2.2.2.1
theorem dX10_read_141 : decode cX10_read 141 = .ok (.goto (-124), 3) := bdX10_read_123.2.2.2.2.2.2.2.2.2.2.1
theorem dX10_read_144 : decode cX10_read 144 = .ok (.aload_n 0, 1) := bdX10_read_123.2.2.2.2.2.2.2.2.2.2.2.1
theorem dX10_read_145 : decode cX10_read 145 = .ok (.getfield 122, 3) := bdX10_read_123.2.2.2.2.2.2.2.2.2.2.2.2.1
theorem dX10_read_148 : decode cX10_read 148 = .ok (.ifCond .ge 18, 3) := bdX10_read_123.2.2.2.2.2.2.2.2.2.2.2.2.2.1
theorem dX10_read_151 : decode cX10_read 151 = .ok (.aload_n 0, 1) := bdX10_read_123.2.2.2.2.2.2.2.2.2.2.2.2.2.2.1
theorem dX10_read_152 : decode cX10_read 152 = .ok (.invokevirtual 125, 3) := bdX10_read_123.2.2.2.2.2.2.2.2.2.2.2.2.2.2.2
theorem bdX10_read_155 : (decode cX10_read 155 = .ok (.ifCond .eq 11, 3)) ∧ (decode cX10_read 158 = .ok (.aload_n 0, 1)) ∧ (decode cX10_read 159 = .ok (.aload_n 0, 1)) ∧ (decode cX10_read 160 = .ok (.getfield 119, 3)) ∧ (decode cX10_read 163 = .ok (.invokevirtual 133, 3)) ∧ (decode cX10_read 166 = .ok (.aload_n 0, 1)) ∧ (decode cX10_read 167 = .ok (.iconst 0, 1)) ∧ (decode cX10_read 168 = .ok (.putfield 116, 3)) ∧ (decode cX10_read 171 = .ok (.aload_n 0, 1)) ∧ (decode cX10_read 172 = .ok (.getfield 122, 3)) ∧ (decode cX10_read 175 = .ok (.ifCond .lt 11, 3)) ∧ (decode cX10_read 178 = .ok (.bipush (-20), 2)) ∧ (decode cX10_read 180 = .ok (.aload_n 0, 1)) ∧ (decode cX10_read 181 = .ok (.getfield 122, 3)) ∧ (decode cX10_read 184 = .ok (.isub, 1)) ∧ (decode cX10_read 185 = .ok (.ireturn, 1)) := by decide +kernel
theorem dX10_read_155 : decode cX10_read 155 = .ok (.ifCond .eq 11, 3) := bdX10_read_155.1
theorem dX10_read_158 : decode cX10_read 158 = .ok (.aload_n 0, 1) := bdX10_read_155.2.1
theorem dX10_read_159 : decode cX10_read 159 = .ok (.aload_n 0, 1) := bdX10_read_155.2.2.1
theorem dX10_read_160 : decode cX10_read 160 = .ok (.getfield 119, 3) := bdX10_read_155.2.2.2.1
theorem dX10_read_163 : decode cX10_read 163 = .ok (.invokevirtual 133, 3) := bdX10_read_155.2.2.2.2.1
theorem dX10_read_166 : decode cX10_read 166 = .ok (.aload_n 0, 1) := bdX10_read_155.2.2.2.2.2.1
theorem dX10_read_167 : decode cX10_read 167 = .ok (.iconst 0, 1) := bdX10_read_155.2.2.2.2.2.2.1
theorem dX10_read_168 : decode cX10_read 168 = .ok (.putfield 116, 3) := bdX10_read_155.2.2.2.2.2.2.2.1
theorem dX10_read_171 : decode cX10_read 171 = .ok (.aload_n 0, 1) := bdX10_read_155.2.2.2.2.2.2.2.2.1
theorem dX10_read_172 : decode cX10_read 172 = .ok (.getfield 122, 3) := bdX10_read_155.2.2.2.2.2.2.2.2.2.1
theorem dX10_read_175 : decode cX10_read 175 = .ok (.ifCond .lt 11, 3) := bdX10_read_155.2.2.2.2.2.2.2.2.2.2.1
theorem dX10_read_178 : decode cX10_read 178 = .ok (.bipush (-20), 2) := bdX10_read_155.2.2.2.2.2.2.2.2.2.2.2.1
theorem dX10_read_180 : decode cX10_read 180 = .ok (.aload_n 0, 1) := bdX10_read_155.2.2.2.2.2.2.2.2.2.2.2.2.1
theorem dX10_read_181 : decode cX10_read 181 = .ok (.getfield 122, 3) := bdX10_read_155.2.2.2.2.2.2.2.2.2.2.2.2.2.1
theorem dX10_read_184 : decode cX10_read 184 = .ok (.isub, 1) := bdX10_read_155.2.2.2.2.2.2.2.2.2.2.2.2.2.2.1
theorem dX10_read_185 : decode cX10_read 185 = .ok (.ireturn, 1) := bdX10_read_155.2.2.2.2.2.2.2.2.2.2.2.2.2.2.2
theorem bdX10_read_186 : (decode cX10_read 186 = .ok (.aload_n 0, 1)) ∧ (decode cX10_read 187 = .ok (.aload_n 0, 1)) ∧ (decode cX10_read 188 = .ok (.getfield 137, 3)) ∧ (decode cX10_read 191 = .ok (.aload_n 0, 1)) ∧ (decode cX10_read 192 = .ok (.getfield 143, 3)) ∧ (decode cX10_read 195 = .ok (.invokevirtual 150, 3)) ∧ (decode cX10_read 198 = .ok (.istore_n 2, 1)) ∧ (decode cX10_read 199 = .ok (.iconst 0, 1)) ∧ (decode cX10_read 200 = .ok (.istore_n 3, 1)) ∧ (decode cX10_read 201 = .ok (.iload_n 3, 1)) ∧ (decode cX10_read 202 = .ok (.aload_n 0, 1)) ∧ (decode cX10_read 203 = .ok (.getfield 7, 3)) ∧ (decode cX10_read 206 = .ok (.if_icmp .ge 50, 3)) ∧ (decode cX10_read 209 = .ok (.iconst 0, 1)) ∧ (decode cX10_read 210 = .ok (.istore 4, 2)) ∧ (decode cX10_read 212 = .ok (.iload 4, 2)) := by decide +kernel
theorem dX10_read_186 : decode cX10_read 186 = .ok (.aload_n 0, 1) := bdX10_read_186.1
theorem dX10_read_187 : decode cX10_read 187 = .ok (.aload_n 0, 1) := bdX10_read_186.2.1
theorem dX10_read_188 : decode cX10_read 188 = .ok (.getfield 137, 3) := bdX10_read_186.2.2.1
theorem dX10_read_191 : decode cX10_read 191 = .ok (.aload_n 0, 1) := bdX10_read_186.2.2.2.1
theorem dX10_read_192 : decode cX10_read 192 = .ok (.getfield 143, 3) := bdX10_read_186.2.2.2.2.1
theorem dX10_read_195 : decode cX10_read 195 = .ok (.invokevirtual 150, 3) := bdX10_read_186.2.2.2.2.2.1
theorem dX10_read_198 : decode cX10_read 198 = .ok (.istore_n 2, 1) := bdX10_read_186.2.2.2.2.2.2.1
theorem dX10_read_199 : decode cX10_read 199 = .ok (.iconst 0, 1) := bdX10_read_186.2.2.2.2.2.2.2.1
theorem dX10_read_200 : decode cX10_read 200 = .ok (.istore_n 3, 1) := bdX10_read_186.2.2.2.2.2.2.2.2.1
theorem dX10_read_201 : decode cX10_read 201 = .ok (.iload_n 3, 1) := bdX10_read_186.2.2.2.2.2.2.2.2.2.1
theorem dX10_read_202 : decode cX10_read 202 = .ok (.aload_n 0, 1) := bdX10_read_186.2.2.2.2.2.2.2.2.2.2.1
theorem dX10_read_203 : decode cX10_read 203 = .ok (.getfield 7, 3) := bdX10_read_186.2.2.2.2.2.2.2.2.2.2.2.1
theorem dX10_read_206 : decode cX10_read 206 = .ok (.if_icmp .ge 50, 3) := bdX10_read_186.2.2.2.2.2.2.2.2.2.2.2.2.1
theorem dX10_read_209 : decode cX10_read 209 = .ok (.iconst 0, 1) := bdX10_read_186.2.2.2.2.2.2.2.2.2.2.2.2.2.1
theorem dX10_read_210 : decode cX10_read 210 = .ok (.istore 4, 2) := bdX10_read_186.2.2.2.2.2.2.2.2.2.2.2.2.2.2.1
theorem dX10_read_212 : decode cX10_read 212 = .ok (.iload 4, 2) := bdX10_read_186.2.2.2.2.2.2.2.2.2.2.2.2.2.2.2
theorem bdX10_read_214 : (decode cX10_read 214 = .ok (.aload_n 0, 1)) ∧ (decode cX10_read 215 = .ok (.getfield 13, 3)) ∧ (decode cX10_read 218 = .ok (.if_icmp .ge 32, 3)) ∧ (decode cX10_read 221 = .ok (.aload_n 0, 1)) ∧ (decode cX10_read 222 = .ok (.getfield 19, 3)) ∧ (decode cX10_read 225 = .ok (.aload_n 0, 1)) ∧ (decode cX10_read 226 = .ok (.iload_n 3, 1)) ∧ (decode cX10_read 227 = .ok (.iload 4, 2)) ∧ (decode cX10_read 229 = .ok (.invokevirtual 97, 3)) ∧ (decode cX10_read 232 = .ok (.aload_n 0, 1)) ∧ (decode cX10_read 233 = .ok (.getfield 35, 3)) ∧ (decode cX10_read 236 = .ok (.iconst 4, 1)) ∧ (decode cX10_read 237 = .ok (.iload_n 3, 1)) ∧ (decode cX10_read 238 = .ok (.imul, 1)) ∧ (decode cX10_read 239 = .ok (.iload 4, 2)) ∧ (decode cX10_read 241 = .ok (.iadd, 1)) := by decide +kernel
theorem dX10_read_214 : decode cX10_read 214 = .ok (.aload_n 0, 1) := bdX10_read_214.1
theorem dX10_read_215 : decode cX10_read 215 = .ok (.getfield 13, 3) := bdX10_read_214.2.1
theorem dX10_read_218 : decode cX10_read 218 = .ok (.if_icmp .ge 32, 3) := bdX10_read_214.2.2.1
theorem dX10_read_221 : decode cX10_read 221 = .ok (.aload_n 0, 1) := bdX10_read_214.2.2.2.1
theorem dX10_read_222 : decode cX10_read 222 = .ok (.getfield 19, 3) := bdX10_read_214.2.2.2.2.1
theorem dX10_read_225 : decode cX10_read 225 = .ok (.aload_n 0, 1) := bdX10_read_214.2.2.2.2.2.1
theorem dX10_read_226 : decode cX10_read 226 = .ok (.iload_n 3, 1) := bdX10_read_214.2.2.2.2.2.2.1
theorem dX10_read_227 : decode cX10_read 227 = .ok (.iload 4, 2) := bdX10_read_214.2.2.2.2.2.2.2.1
theorem dX10_read_229 : decode cX10_read 229 = .ok (.invokevirtual 97, 3) := bdX10_read_214.2.2.2.2.2.2.2.2.1
theorem dX10_read_232 : decode cX10_read 232 = .ok (.aload_n 0, 1) := bdX10_read_214.2.2.2.2.2.2.2.2.2.1
theorem dX10_read_233 : decode cX10_read 233 = .ok (.getfield 35, 3) := bdX10_read_214.2.2.2.2.2.2.2.2.2.2.1
theorem dX10_read_236 : decode cX10_read 236 = .ok (.iconst 4, 1) := bdX10_read_214.2.2.2.2.2.2.2.2.2.2.2.1
theorem dX10_read_237 : decode cX10_read 237 = .ok (.iload_n 3, 1) := bdX10_read_214.2.2.2.2.2.2.2.2.2.2.2.2.1
theorem dX10_read_238 : decode cX10_read 238 = .ok (.imul, 1) := bdX10_read_214.2.2.2.2.2.2.2.2.2.2.2.2.2.1
theorem dX10_read_239 : decode cX10_read 239 = .ok (.iload 4, 2) := bdX10_read_214.2.2.2.2.2.2.2.2.2.2.2.2.2.2.1
theorem dX10_read_241 : decode cX10_read 241 = .ok (.iadd, 1) := bdX10_read_214.2.2.2.2.2.2.2.2.2.2.2.2.2.2.2
theorem bdX10_read_242 : (decode cX10_read 242 = .ok (.iaload, 1)) ∧ (decode cX10_read 243 = .ok (.iastore, 1)) ∧ (decode cX10_read 244 = .ok (.iinc 4 1, 3)) ∧ (decode cX10_read 247 = .ok (.goto (-35), 3)) ∧ (decode cX10_read 250 = .ok (.iinc 3 1, 3)) ∧ (decode cX10_read 253 = .ok (.goto (-52), 3)) ∧ (decode cX10_read 256 = .ok (.aload_n 0, 1)) ∧ (decode cX10_read 257 = .ok (.getfield 7, 3)) ∧ (decode cX10_read 260 = .ok (.ireturn, 1)) := by decide +kernel
theorem dX10_read_242 : decode cX10_read 242 = .ok (.iaload, 1) := bdX10_read_242.1
theorem dX10_read_243 : decode cX10_read 243 = .ok (.iastore, 1) := bdX10_read_242.2.1
theorem dX10_read_244 : decode cX10_read 244 = .ok (.iinc 4 1, 3) := bdX10_read_242.2.2.1
theorem dX10_read_247 : decode cX10_read 247 = .ok (.goto (-35), 3) := bdX10_read_242.2.2.2.1
theorem dX10_read_250 : decode cX10_read 250 = .ok (.iinc 3 1, 3) := bdX10_read_242.2.2.2.2.1
theorem dX10_read_253 : decode cX10_read 253 = .ok (.goto (-52), 3) := bdX10_read_242.2.2.2.2.2.1
theorem dX10_read_256 : decode cX10_read 256 = .ok (.aload_n 0, 1) := bdX10_read_242.2.2.2.2.2.2.1
theorem dX10_read_257 : decode cX10_read 257 = .ok (.getfield 7, 3) := bdX10_read_242.2.2.2.2.2.2.2.1
theorem dX10_read_260 : decode cX10_read 260 = .ok (.ireturn, 1) := bdX10_read_242.2.2.2.2.2.2.2.2
set_option maxHeartbeats 4000000 in
set_option maxRecDepth 100000 in
theorem k_X10_read (l : Launch) (dC : Nat → ClassId) (dI : Nat → Nat → Nat) (h : Nat → Nat) (cs : Nat → ClassId) (sz : Nat) (I : Nat → Int32) (L : Nat → Int64) (A : Nat → Nat → Int32) (Q : Nat → Nat → Int64) (T : Nat) (hT : I 10 = nI T) (hT9 : T ≤ 90) (hnz : ∀ u : Nat, u < T → ¬ A 9 u = nI 0) : Met l yX10_read wsX10_read ({ frames := 3, cells := 0, slots := 0, locals := 71 }) (va_Pc [.ref (h 0)] (xPre (dC, dI) (rW h cs I L A Q) (tysA cs) sz)) (va_Qi (fun (r : Int32) (u : RS) => ∃ i11 : Int32, ∃ i12 : Int32, ∃ i14 : Int32, ∃ i15 : Int32, ∃ i10 : Int32, ∃ a13 : Nat → Int32, ∃ i0 : Int32, ∃ i1 : Int32, ∃ i4 : Int32, ∃ i5 : Int32, ∃ a3 : Nat → Int32, (i10 = nI 0 ∧ ((∃ (i j : Nat) (V : Nat → Nat → Int32), 1 ≤ i ∧ i ≤ 5 ∧ 1 ≤ j ∧ j ≤ 4 ∧ r = nI i ∧ i0 = nI i ∧ i1 = nI j ∧ i4 = nI 0 ∧ i5 = nI 0 ∧ (∀ q : Nat, q < 25 → b9 (a3 q)) ∧ pR (A 9) T 20 0 0 0 0 (nI 0) i j V ∧ (∀ a b : Nat, a < i → b < j → a3 (5 * a + b) = V a b) ∧ ∀ a : Nat, a < 5 → a3 (5 * a + 4) = nI 0) ∨ (∃ (q : Nat) (V : Nat → Nat → Int32), q ≤ T ∧ r = -20 - nI q ∧ pR (A 9) T 20 0 0 0 0 (-20 - nI q) 0 0 V ∧ i0 = I 0 ∧ i1 = I 1 ∧ i4 = I 4 ∧ i5 = I 5 ∧ a3 = A 3))) ∧ u = ((va_up (va_up (va_up (va_up (va_up (va_up (va_up (va_up (va_up I 11 i11) 12 i12) 14 i14) 15 i15) 10 i10) 0 i0) 1 i1) 4 i4) 5 i5), L, (va_up (va_up A 13 a13) 3 a3), Q)) (xB (dC, dI) (tysA cs) (va_A (rW h cs I L A Q) sz) (fun u : RS => rW h cs u.1 u.2.1 u.2.2.1 u.2.2.2)) (va_A (rW h cs I L A Q) sz)) 0 0 (va_A (rW h cs I L A Q) sz) := by
  refine Met.ofW (cc := cX10_read) (maxL := 5) (ret := (some .int)) (by decide) rfl ?_
  intro p e s m args below meth c s₁ B hml hv
  obtain ⟨rfl, hsz, hP, hK, hD0, hN⟩ := hv
  have hx := B.exec
  have hb := B.bytes
  have hr := B.returns
  have hts := atoms_spec (ws := wsX10_read) B.pre
  have hown : s.vm.findClass RX10 = some m.cls := findClass_of_methodNamed B.named
  have hlocks := B.notSynchronized
  subst hsz
  have hD := hD0.self (sz := s.heap.size)
  generalize hAe : va_A (rW h cs I L A Q) s.heap.size = A0 at hD ⊢
  have hA : ∀ q : Nat, s.heap.size ≤ q → A0 q := fun q h => by rw [← hAe]; exact Or.inr h
  have hl := lv_entry ([.ref (h 0)]) (n := 5) (Nat.le_of_ble_eq_true rfl)
  rw [lg_entry_eq]
  generalize (lg_sl ([.ref (h 0)]) ++ List.replicate (5 - (lg_sl ([.ref (h 0)])).length) Slot.unset).toArray = ls at hl ⊢
  have hl : lv_has ls 5 [(0, .ref (h 0))] := hl
  generalize hH : s.heap = H at hP ⊢
  have hS : va_S A0 s.heap H [] := by rw [← hH]; exact va_S.rf
  have hinX10 : ∀ w ∈ wsX100, w ∈ wsX10_read := by decide +kernel
  refine lv_aload_n hx hb dX10_read_0 rfl (lv_at hl 0 rfl) ?_
  refine lv_iconst (v := nI 0) hx hb dX10_read_1 (by decide) ?_
  refine va_put (D := (dC, dI)) (ci := 10) (v := .int (nI 0)) (ty := .int) (C := RX10) (T := TX10) (N := 28) hx hb hts hinX10 tyX10 tyX10_ok nmX10 hown hK hP hD hS 0 rfl rfl 11 (by decide) (hts (.fieldLink RX10 119 "MixedWordsModel" "at" "I") (by decide +kernel)) (fun _ h9 => h9) rfl (by decide +kernel) rfl rfl (Nat.le_of_ble_eq_true rfl) dX10_read_2 (fun H locs hP hD hS => ?_)
  have hP : va_P (dC, dI) vwCl (rW h cs (va_up I 11 (nI 0)) L A Q) H := hP
  have hD : va_D A0 (rW h cs (va_up I 11 (nI 0)) L A Q) := hD
  refine lv_aload_n hx hb dX10_read_5 rfl (lv_at hl 0 rfl) ?_
  refine lv_iconst (v := (-1)) hx hb dX10_read_6 (by decide) ?_
  refine va_put (D := (dC, dI)) (ci := 10) (v := .int (-1)) (ty := .int) (C := RX10) (T := TX10) (N := 28) hx hb hts hinX10 tyX10 tyX10_ok nmX10 hown hK hP hD hS 0 rfl rfl 12 (by decide) (hts (.fieldLink RX10 122 "MixedWordsModel" "wrong" "I") (by decide +kernel)) (fun _ h9 => h9) rfl (by decide +kernel) rfl rfl (Nat.le_of_ble_eq_true rfl) dX10_read_7 (fun H locs hP hD hS => ?_)
  have hP : va_P (dC, dI) vwCl (rW h cs (va_up (va_up I 11 (nI 0)) 12 (-1)) L A Q) H := hP
  have hD : va_D A0 (rW h cs (va_up (va_up I 11 (nI 0)) 12 (-1)) L A Q) := hD
  refine lv_aload_n hx hb dX10_read_10 rfl (lv_at hl 0 rfl) ?_
  refine lv_iconst (v := nI 0) hx hb dX10_read_11 (by decide) ?_
  refine va_put (D := (dC, dI)) (ci := 10) (v := .int (nI 0)) (ty := .int) (C := RX10) (T := TX10) (N := 28) hx hb hts hinX10 tyX10 tyX10_ok nmX10 hown hK hP hD hS 0 rfl rfl 14 (by decide) (hts (.fieldLink RX10 137 "MixedWordsModel" "readRows" "I") (by decide +kernel)) (fun _ h9 => h9) rfl (by decide +kernel) rfl rfl (Nat.le_of_ble_eq_true rfl) dX10_read_12 (fun H locs hP hD hS => ?_)
  have hP : va_P (dC, dI) vwCl (rW h cs (va_up (va_up (va_up I 11 (nI 0)) 12 (-1)) 14 (nI 0)) L A Q) H := hP
  have hD : va_D A0 (rW h cs (va_up (va_up (va_up I 11 (nI 0)) 12 (-1)) 14 (nI 0)) L A Q) := hD
  refine lv_iconst (v := nI 1) hx hb dX10_read_15 (by decide) ?_
  refine lv_istore_n (lv' := [(1, .int (nI 1)), (0, .ref (h 0))]) hx hb dX10_read_16 rfl hl (by decide) rfl (fun ls hl => ?_)
  have cut_17 : ∀ (nf : Nat) (m1 : Nat) (rr : Nat) (cc : Nat) (c15 : Int32) (a1 : Nat) (w1 : Int32) (g : Nat → Int32), (5 - rr) < nf → (m1 ≤ 1) → (rr ≤ 5) → (m1 = 1 → rr ≤ 4 ∧ w1 < 0) → (a1 ≤ T) → (0 < rr → (c15 = nI cc ∧ 1 ≤ cc ∧ cc ≤ 4)) → (m1 = 0 → 0 < rr) → (w1 < 0 → ∀ i j : Nat, i < rr → j < cc → b9 (g (4 * i + j))) → (rr = 0 → cc = 0) → (m1 = 1 → KP (A 9) T (rr * cc) rr cc 0 a1 (fun i j => g (4 * i + j))) → (m1 = 0 → Hid9 ((∃ (q : Nat) (V : Nat → Nat → Int32), q ≤ T ∧ w1 = nI q ∧ pR (A 9) T 20 0 0 0 0 (-20 - nI q) 0 0 V) ∨ (w1 < 0 ∧ IsSkip (A 9) T a1 a1 ∧ ∃ w9 : Nat, (rr = 1 ∨ w9 = cc) ∧ ¬ (isC (A 9) T a1 59 ∧ rr < 5) ∧ ¬ (isC (A 9) T a1 44 ∧ cc < (if rr = 1 then 4 else w9)) ∧ KM (A 9) T (rr * cc) (rr - 1) w9 cc a1 (fun i j => g (4 * i + j))))) → ∀ (H : Heap) (locs : List Loc) (ls : Array Slot), va_P (dC, dI) vwCl (rW h cs (va_up (va_up (va_up (va_up I 11 (nI a1)) 12 w1) 14 (nI rr)) 15 c15) L (va_up A 13 g) Q) H → va_D A0 (rW h cs (va_up (va_up (va_up (va_up I 11 (nI a1)) 12 w1) 14 (nI rr)) 15 c15) L (va_up A 13 g) Q) → va_S A0 s.heap H locs → lv_has ls 5 [(0, .ref (h 0)), (1, .int (nI m1))] → W p l e (headSpec wsX10_read ({ frames := 3, cells := 0, slots := 0, locals := 71 })).room s m ([.ref (h 0)] : List Value).toArray below meth c H locs 0 0 (MQ below (va_Qi (fun (r : Int32) (u : RS) => ∃ i11 : Int32, ∃ i12 : Int32, ∃ i14 : Int32, ∃ i15 : Int32, ∃ i10 : Int32, ∃ a13 : Nat → Int32, ∃ i0 : Int32, ∃ i1 : Int32, ∃ i4 : Int32, ∃ i5 : Int32, ∃ a3 : Nat → Int32, (i10 = nI 0 ∧ ((∃ (i j : Nat) (V : Nat → Nat → Int32), 1 ≤ i ∧ i ≤ 5 ∧ 1 ≤ j ∧ j ≤ 4 ∧ r = nI i ∧ i0 = nI i ∧ i1 = nI j ∧ i4 = nI 0 ∧ i5 = nI 0 ∧ (∀ q : Nat, q < 25 → b9 (a3 q)) ∧ pR (A 9) T 20 0 0 0 0 (nI 0) i j V ∧ (∀ a b : Nat, a < i → b < j → a3 (5 * a + b) = V a b) ∧ ∀ a : Nat, a < 5 → a3 (5 * a + 4) = nI 0) ∨ (∃ (q : Nat) (V : Nat → Nat → Int32), q ≤ T ∧ r = -20 - nI q ∧ pR (A 9) T 20 0 0 0 0 (-20 - nI q) 0 0 V ∧ i0 = I 0 ∧ i1 = I 1 ∧ i4 = I 4 ∧ i5 = I 5 ∧ a3 = A 3))) ∧ u = ((va_up (va_up (va_up (va_up (va_up (va_up (va_up (va_up (va_up I 11 i11) 12 i12) 14 i14) 15 i15) 10 i10) 0 i0) 1 i1) 4 i4) 5 i5), L, (va_up (va_up A 13 a13) 3 a3), Q)) (xB (dC, dI) (tysA cs) A0 (fun u : RS => rW h cs u.1 u.2.1 u.2.2.1 u.2.2.2)) A0) ([.ref (h 0)] : List Value).toArray s 0 0 A0) (F0 m 17 ls []) := by
    intro nf
    induction nf with
    | zero => intro m1 rr cc c15 a1 w1 g hm; exact absurd hm (Nat.not_lt_zero _)
    | succ nf ih_17 =>
      intro m1 rr cc c15 a1 w1 g hm_17 hm17 hr17 hmr17 ha17 hc17 h017 hb17 hz17 hk17 he17 H locs ls hP hD hS hl
      refine lv_iload_n hx hb dX10_read_17 rfl (lv_at hl 1 rfl) ?_
      refine xz_eq (tgt := 144) hx hb dX10_read_18 (by decide) (by omega) (fun c_18_0 => ?_) (fun c_18_0 => ?_)
      · skip
        refine lv_aload_n hx hb dX10_read_144 rfl (lv_at hl 0 rfl) ?_
        refine va_get (D := (dC, dI)) (ci := 10) (v := .int w1) (C := RX10) (T := TX10) (N := 28) hx hb hts hinX10 hown hK hP 0 rfl rfl 12 (by decide) (hts (.fieldLink RX10 122 "MixedWordsModel" "wrong" "I") (by decide +kernel)) (fun _ h9 => h9) rfl dX10_read_145 ?_
        refine lv_if_ge (tgt := 166) hx hb dX10_read_148 (by decide) (fun c_148_1 => ?_) (fun c_148_1 => ?_)
        · skip
          have hwp := c_148_1
          rcases he17 (by omega) with ⟨q9, V9, hq9, hw9, hflt⟩ | ⟨hw9, -⟩
          case inr => exact absurd hw9 (Int32.not_lt.mpr hwp)
          refine lv_aload_n hx hb dX10_read_166 rfl (lv_at hl 0 rfl) ?_
          refine lv_iconst (v := nI 0) hx hb dX10_read_167 (by decide) ?_
          refine va_put (D := (dC, dI)) (ci := 10) (v := .int (nI 0)) (ty := .int) (C := RX10) (T := TX10) (N := 28) hx hb hts hinX10 tyX10 tyX10_ok nmX10 hown hK hP hD hS 0 rfl rfl 10 (by decide) (hts (.fieldLink RX10 116 "MixedWordsModel" "taped" "I") (by decide +kernel)) (fun _ h9 => h9) rfl (by decide +kernel) rfl rfl (Nat.le_of_ble_eq_true rfl) dX10_read_168 (fun H locs hP hD hS => ?_)
          have hP : va_P (dC, dI) vwCl (rW h cs (va_up (va_up (va_up (va_up (va_up I 11 (nI a1)) 12 w1) 14 (nI rr)) 15 c15) 10 (nI 0)) L (va_up A 13 g) Q) H := hP
          have hD : va_D A0 (rW h cs (va_up (va_up (va_up (va_up (va_up I 11 (nI a1)) 12 w1) 14 (nI rr)) 15 c15) 10 (nI 0)) L (va_up A 13 g) Q) := hD
          refine lv_aload_n hx hb dX10_read_171 rfl (lv_at hl 0 rfl) ?_
          refine va_get (D := (dC, dI)) (ci := 10) (v := .int w1) (C := RX10) (T := TX10) (N := 28) hx hb hts hinX10 hown hK hP 0 rfl rfl 12 (by decide) (hts (.fieldLink RX10 122 "MixedWordsModel" "wrong" "I") (by decide +kernel)) (fun _ h9 => h9) rfl dX10_read_172 ?_
          refine lv_if_lt (tgt := 186) hx hb dX10_read_175 (by decide) (fun c_175_2 => ?_) (fun c_175_2 => ?_)
          · skip
            exact absurd c_175_2 (Int32.not_lt.mpr hwp)
          · skip
            refine lv_bipush (v := (-20)) hx hb dX10_read_178 (by decide) ?_
            refine lv_aload_n hx hb dX10_read_180 rfl (lv_at hl 0 rfl) ?_
            refine va_get (D := (dC, dI)) (ci := 10) (v := .int w1) (C := RX10) (T := TX10) (N := 28) hx hb hts hinX10 hown hK hP 0 rfl rfl 12 (by decide) (hts (.fieldLink RX10 122 "MixedWordsModel" "wrong" "I") (by decide +kernel)) (fun _ h9 => h9) rfl dX10_read_181 ?_
            refine lv_isub hx hb dX10_read_184 ?_
            exact xr_i (v := ((-20) - w1)) hx hb hr hlocks hK hS dX10_read_185 ((va_up (va_up (va_up (va_up (va_up (va_up (va_up (va_up (va_up I 11 (nI a1)) 12 w1) 14 (nI rr)) 15 c15) 10 (nI 0)) 0 (I 0)) 1 (I 1)) 4 (I 4)) 5 (I 5)), L, (va_up (va_up A 13 g) 3 (A 3)), Q) ⟨(nI a1), w1, (nI rr), c15, (nI 0), g, (I 0), (I 1), (I 4), (I 5), (A 3), ⟨rfl, Or.inr ⟨q9, V9, hq9, by rw [hw9], hflt, rfl, rfl, rfl, rfl, rfl⟩⟩, rfl⟩ hP hD
        · skip
          have hwl := Int32.not_le.mp c_148_1
          rcases he17 (by omega) with ⟨q9, V9, hq9, hw9, -⟩ | ⟨-, hEs, w9, hEw, hE59, hE44, hKM⟩
          · exact absurd (by rw [hw9]; exact Int32.not_lt.mp (nI_pos (show q9 < 2 ^ 31 by omega))) c_148_1
          refine lv_aload_n hx hb dX10_read_151 rfl (lv_at hl 0 rfl) ?_
          refine xj_i (wc := (rW h cs (va_up (va_up (va_up (va_up I 11 (nI a1)) 12 w1) 14 (nI rr)) 15 c15) L (va_up A 13 g) Q)) (wr := ([] : va_W)) hP hD hS hA [0, 1, 2, 3, 4, 5, 6, 7, 8, 9, 10, 11, 12, 13, 14, 15, 16] [] rfl rfl (by decide +kernel) (by decide +kernel) (va_runV (As := []) (rest := []) ⟨hx, hb, hml, hown, hts⟩ (k_X10_next l dC dI h cs H.size (va_up (va_up (va_up (va_up I 11 (nI a1)) 12 w1) 14 (nI rr)) 15 c15) L (va_up A 13 g) Q T a1 hT (by first | assumption | omega | exact hT9) rfl (by first | assumption | omega)) (cwV 0 hts gX10_read_X10_next rfl rfl rfl (by decide +kernel) ⟨Nat.le_of_ble_eq_true rfl, Nat.le_of_ble_eq_true rfl⟩) (xpV (wc := (rW h cs (va_up (va_up (va_up (va_up I 11 (nI a1)) 12 w1) 14 (nI rr)) 15 c15) L (va_up A 13 g) Q)) hP hD hK hN [0, 1, 2, 3, 4, 5, 6, 7, 8, 9, 10, 11, 12, 13, 14, 15, 16] rfl (by decide) 0 (ci := 10) rfl rfl _) rfl rfl hl.1 rfl (lv_room (Nat.le_of_ble_eq_true rfl)) dX10_read_152 ⟨Nat.zero_le _, Nat.zero_le _⟩) (fun r_5 u_4 H locs hw hP hD hS => ?_)
          obtain ⟨x11_6, hf_7, rfl⟩ := hw
          have hP : va_P (dC, dI) vwCl (rW h cs (va_up (va_up (va_up (va_up I 12 w1) 14 (nI rr)) 15 c15) 11 x11_6) L (va_up A 13 g) Q) H := hP
          have hD : va_D A0 (rW h cs (va_up (va_up (va_up (va_up I 12 w1) 14 (nI rr)) 15 c15) 11 x11_6) L (va_up A 13 g) Q) := hD
          obtain ⟨j_8, hskj, rfl, rfl⟩ := hf_7
          obtain rfl := sk_u hEs hskj
          refine lv_if_eq (tgt := 166) hx hb dX10_read_155 (by decide) (fun c_155_8 => ?_) (fun c_155_8 => ?_)
          · skip
            have hlT := (nz_c hnz).mp c_155_8
            refine lv_aload_n hx hb dX10_read_166 rfl (lv_at hl 0 rfl) ?_
            refine lv_iconst (v := nI 0) hx hb dX10_read_167 (by decide) ?_
            refine va_put (D := (dC, dI)) (ci := 10) (v := .int (nI 0)) (ty := .int) (C := RX10) (T := TX10) (N := 28) hx hb hts hinX10 tyX10 tyX10_ok nmX10 hown hK hP hD hS 0 rfl rfl 10 (by decide) (hts (.fieldLink RX10 116 "MixedWordsModel" "taped" "I") (by decide +kernel)) (fun _ h9 => h9) rfl (by decide +kernel) rfl rfl (Nat.le_of_ble_eq_true rfl) dX10_read_168 (fun H locs hP hD hS => ?_)
            have hP : va_P (dC, dI) vwCl (rW h cs (va_up (va_up (va_up (va_up (va_up I 12 w1) 14 (nI rr)) 15 c15) 11 (nI a1)) 10 (nI 0)) L (va_up A 13 g) Q) H := hP
            have hD : va_D A0 (rW h cs (va_up (va_up (va_up (va_up (va_up I 12 w1) 14 (nI rr)) 15 c15) 11 (nI a1)) 10 (nI 0)) L (va_up A 13 g) Q) := hD
            refine lv_aload_n hx hb dX10_read_171 rfl (lv_at hl 0 rfl) ?_
            refine va_get (D := (dC, dI)) (ci := 10) (v := .int w1) (C := RX10) (T := TX10) (N := 28) hx hb hts hinX10 hown hK hP 0 rfl rfl 12 (by decide) (hts (.fieldLink RX10 122 "MixedWordsModel" "wrong" "I") (by decide +kernel)) (fun _ h9 => h9) rfl dX10_read_172 ?_
            refine lv_if_lt (tgt := 186) hx hb dX10_read_175 (by decide) (fun c_175_9 => ?_) (fun c_175_9 => ?_)
            · skip
              refine lv_aload_n hx hb dX10_read_186 rfl (lv_at hl 0 rfl) ?_
              refine lv_aload_n hx hb dX10_read_187 rfl (lv_at hl 0 rfl) ?_
              refine va_get (D := (dC, dI)) (ci := 10) (v := .int (nI rr)) (C := RX10) (T := TX10) (N := 28) hx hb hts hinX10 hown hK hP 0 rfl rfl 14 (by decide) (hts (.fieldLink RX10 137 "MixedWordsModel" "readRows" "I") (by decide +kernel)) (fun _ h9 => h9) rfl dX10_read_188 ?_
              refine lv_aload_n hx hb dX10_read_191 rfl (lv_at hl 0 rfl) ?_
              refine va_get (D := (dC, dI)) (ci := 10) (v := .int c15) (C := RX10) (T := TX10) (N := 28) hx hb hts hinX10 hown hK hP 0 rfl rfl 15 (by decide) (hts (.fieldLink RX10 143 "MixedWordsModel" "readColumns" "I") (by decide +kernel)) (fun _ h9 => h9) rfl dX10_read_192 ?_
              obtain ⟨hc1, hc2, hc3⟩ := hc17 (by omega)
              refine xt_i (y := nI cc) (hc1) ?_
              refine xj_i (wc := (rW h cs (va_up (va_up (va_up (va_up (va_up I 12 w1) 14 (nI rr)) 15 c15) 11 (nI a1)) 10 (nI 0)) L (va_up A 13 g) Q)) (wr := ([] : va_W)) hP hD hS hA [0, 1, 2, 3, 4, 5, 6, 7, 8, 9, 10, 11, 12, 13, 14, 15, 16] [] rfl rfl (by decide +kernel) (by decide +kernel) (va_runV (As := [.int (nI rr), .int (nI cc)]) (rest := []) ⟨hx, hb, hml, hown, hts⟩ (k_X10_table l dC dI h cs H.size (va_up (va_up (va_up (va_up (va_up I 12 w1) 14 (nI rr)) 15 c15) 11 (nI a1)) 10 (nI 0)) L (va_up A 13 g) Q (nI rr) (nI cc)) (cwV 2 hts gX10_read_X10_table rfl rfl rfl (by decide +kernel) ⟨Nat.le_of_ble_eq_true rfl, Nat.le_of_ble_eq_true rfl⟩) (xpV (wc := (rW h cs (va_up (va_up (va_up (va_up (va_up I 12 w1) 14 (nI rr)) 15 c15) 11 (nI a1)) 10 (nI 0)) L (va_up A 13 g) Q)) hP hD hK hN [0, 1, 2, 3, 4, 5, 6, 7, 8, 9, 10, 11, 12, 13, 14, 15, 16] rfl (by decide) 0 (ci := 10) rfl rfl _) rfl rfl hl.1 rfl (lv_room (Nat.le_of_ble_eq_true rfl)) dX10_read_195 ⟨Nat.zero_le _, Nat.zero_le _⟩) (fun r_12 u_11 H locs hw hP hD hS => ?_)
              obtain ⟨x0_13, x1_14, x4_15, x5_16, f_17, hf_18, rfl⟩ := hw
              have hP : va_P (dC, dI) vwCl (rW h cs (va_up (va_up (va_up (va_up (va_up (va_up (va_up (va_up (va_up I 12 w1) 14 (nI rr)) 15 c15) 11 (nI a1)) 10 (nI 0)) 0 x0_13) 1 x1_14) 4 x4_15) 5 x5_16) L (va_up (va_up A 13 g) 3 f_17) Q) H := hP
              have hD : va_D A0 (rW h cs (va_up (va_up (va_up (va_up (va_up (va_up (va_up (va_up (va_up I 12 w1) 14 (nI rr)) 15 c15) 11 (nI a1)) 10 (nI 0)) 0 x0_13) 1 x1_14) 4 x4_15) 5 x5_16) L (va_up (va_up A 13 g) 3 f_17) Q) := hD
              rcases hf_18 with ⟨rfl, i9, j9, k1, k2, k3, k4, e1, e2, rfl, rfl, rfl, rfl, hz9⟩ | ⟨-, hn9, -⟩
              · skip
                obtain rfl : rr = i9 := (nI_eq (by omega) (by omega)).mp e1
                obtain rfl : cc = j9 := (nI_eq (by omega) (by omega)).mp e2
                have hz0 := b9_0 hz9
                refine lv_istore_n (lv' := [(2, .int (nI 1)), (0, .ref (h 0)), (1, .int (nI m1))]) hx hb dX10_read_198 rfl hl (by decide) rfl (fun ls hl => ?_)
                refine lv_iconst (v := nI 0) hx hb dX10_read_199 (by decide) ?_
                refine lv_istore_n (lv' := [(3, .int (nI 0)), (2, .int (nI 1)), (0, .ref (h 0)), (1, .int (nI m1))]) hx hb dX10_read_200 rfl hl (by decide) rfl (fun ls hl => ?_)
                have cut_201 : ∀ (nf : Nat) (n : Nat) (t3 : Nat → Int32), (rr - n) < nf → (n ≤ rr) → (∀ q : Nat, q < 25 → b9 (t3 q)) → (∀ a b : Nat, b < cc → (a < n ∨ (a = n ∧ b < 0)) → t3 (5 * a + b) = g (4 * a + b)) → (∀ a : Nat, a < 5 → t3 (5 * a + 4) = nI 0) → ∀ (H : Heap) (locs : List Loc) (ls : Array Slot), va_P (dC, dI) vwCl (rW h cs (va_up (va_up (va_up (va_up (va_up (va_up (va_up (va_up (va_up I 12 w1) 14 (nI rr)) 15 c15) 11 (nI a1)) 10 (nI 0)) 0 (nI rr)) 1 (nI cc)) 4 (nI 0)) 5 (nI 0)) L (va_up (va_up A 13 g) 3 t3) Q) H → va_D A0 (rW h cs (va_up (va_up (va_up (va_up (va_up (va_up (va_up (va_up (va_up I 12 w1) 14 (nI rr)) 15 c15) 11 (nI a1)) 10 (nI 0)) 0 (nI rr)) 1 (nI cc)) 4 (nI 0)) 5 (nI 0)) L (va_up (va_up A 13 g) 3 t3) Q) → va_S A0 s.heap H locs → lv_has ls 5 [(0, .ref (h 0)), (1, .int (nI m1)), (2, .int (nI 1)), (3, .int (nI n))] → W p l e (headSpec wsX10_read ({ frames := 3, cells := 0, slots := 0, locals := 71 })).room s m ([.ref (h 0)] : List Value).toArray below meth c H locs 0 0 (MQ below (va_Qi (fun (r : Int32) (u : RS) => ∃ i11 : Int32, ∃ i12 : Int32, ∃ i14 : Int32, ∃ i15 : Int32, ∃ i10 : Int32, ∃ a13 : Nat → Int32, ∃ i0 : Int32, ∃ i1 : Int32, ∃ i4 : Int32, ∃ i5 : Int32, ∃ a3 : Nat → Int32, (i10 = nI 0 ∧ ((∃ (i j : Nat) (V : Nat → Nat → Int32), 1 ≤ i ∧ i ≤ 5 ∧ 1 ≤ j ∧ j ≤ 4 ∧ r = nI i ∧ i0 = nI i ∧ i1 = nI j ∧ i4 = nI 0 ∧ i5 = nI 0 ∧ (∀ q : Nat, q < 25 → b9 (a3 q)) ∧ pR (A 9) T 20 0 0 0 0 (nI 0) i j V ∧ (∀ a b : Nat, a < i → b < j → a3 (5 * a + b) = V a b) ∧ ∀ a : Nat, a < 5 → a3 (5 * a + 4) = nI 0) ∨ (∃ (q : Nat) (V : Nat → Nat → Int32), q ≤ T ∧ r = -20 - nI q ∧ pR (A 9) T 20 0 0 0 0 (-20 - nI q) 0 0 V ∧ i0 = I 0 ∧ i1 = I 1 ∧ i4 = I 4 ∧ i5 = I 5 ∧ a3 = A 3))) ∧ u = ((va_up (va_up (va_up (va_up (va_up (va_up (va_up (va_up (va_up I 11 i11) 12 i12) 14 i14) 15 i15) 10 i10) 0 i0) 1 i1) 4 i4) 5 i5), L, (va_up (va_up A 13 a13) 3 a3), Q)) (xB (dC, dI) (tysA cs) A0 (fun u : RS => rW h cs u.1 u.2.1 u.2.2.1 u.2.2.2)) A0) ([.ref (h 0)] : List Value).toArray s 0 0 A0) (F0 m 201 ls []) := by
                  intro nf
                  induction nf with
                  | zero => intro n t3 hm; exact absurd hm (Nat.not_lt_zero _)
                  | succ nf ih_201 =>
                    intro n t3 hm_201 hn201 ht201 hv201 hh201 H locs ls hP hD hS hl
                    refine lv_iload_n hx hb dX10_read_201 rfl (lv_at hl 3 rfl) ?_
                    refine lv_aload_n hx hb dX10_read_202 rfl (lv_at hl 0 rfl) ?_
                    refine va_get (D := (dC, dI)) (ci := 10) (v := .int (nI rr)) (C := RX10) (T := TX10) (N := 28) hx hb hts hinX10 hown hK hP 0 rfl rfl 0 (by decide) (hts (.fieldLink RX10 7 "MixedWordsModel" "rows" "I") (by decide +kernel)) (fun _ h9 => h9) rfl dX10_read_203 ?_
                    refine xn_ge (tgt := 256) hx hb dX10_read_206 (by decide) (by omega) (by omega) (fun c_206_18 => ?_) (fun c_206_18 => ?_)
                    · skip
                      refine lv_aload_n hx hb dX10_read_256 rfl (lv_at hl 0 rfl) ?_
                      refine va_get (D := (dC, dI)) (ci := 10) (v := .int (nI rr)) (C := RX10) (T := TX10) (N := 28) hx hb hts hinX10 hown hK hP 0 rfl rfl 0 (by decide) (hts (.fieldLink RX10 7 "MixedWordsModel" "rows" "I") (by decide +kernel)) (fun _ h9 => h9) rfl dX10_read_257 ?_
                      exact xr_i (v := (nI rr)) hx hb hr hlocks hK hS dX10_read_260 ((va_up (va_up (va_up (va_up (va_up (va_up (va_up (va_up (va_up I 11 (nI a1)) 12 w1) 14 (nI rr)) 15 c15) 10 (nI 0)) 0 (nI rr)) 1 (nI cc)) 4 (nI 0)) 5 (nI 0)), L, (va_up (va_up A 13 g) 3 t3), Q) ⟨(nI a1), w1, (nI rr), c15, (nI 0), g, (nI rr), (nI cc), (nI 0), (nI 0), t3, ⟨rfl, Or.inl ⟨rr, cc, _, by omega, by omega, by omega, by omega, rfl, rfl, rfl, rfl, rfl, ht201, by have q9 := KM_end hKM hlT (by omega); rw [show rr - 1 + 1 = rr by omega] at q9; exact q9, fun a b ha hb => hv201 a b hb (Or.inl (by omega)), hh201⟩⟩, rfl⟩ hP hD
                    · skip
                      refine lv_iconst (v := nI 0) hx hb dX10_read_209 (by decide) ?_
                      refine lv_istore (lv' := [(4, .int (nI 0)), (0, .ref (h 0)), (1, .int (nI m1)), (2, .int (nI 1)), (3, .int (nI n))]) hx hb dX10_read_210 hl (by decide) rfl (fun ls hl => ?_)
                      have cut_212 : ∀ (nf : Nat) (k : Nat) (t4 : Nat → Int32), (cc - k) < nf → (k ≤ cc) → (∀ q : Nat, q < 25 → b9 (t4 q)) → (∀ a b : Nat, b < cc → (a < n ∨ (a = n ∧ b < k)) → t4 (5 * a + b) = g (4 * a + b)) → (∀ a : Nat, a < 5 → t4 (5 * a + 4) = nI 0) → ∀ (H : Heap) (locs : List Loc) (ls : Array Slot), va_P (dC, dI) vwCl (rW h cs (va_up (va_up (va_up (va_up (va_up (va_up (va_up (va_up (va_up I 12 w1) 14 (nI rr)) 15 c15) 11 (nI a1)) 10 (nI 0)) 0 (nI rr)) 1 (nI cc)) 4 (nI 0)) 5 (nI 0)) L (va_up (va_up A 13 g) 3 t4) Q) H → va_D A0 (rW h cs (va_up (va_up (va_up (va_up (va_up (va_up (va_up (va_up (va_up I 12 w1) 14 (nI rr)) 15 c15) 11 (nI a1)) 10 (nI 0)) 0 (nI rr)) 1 (nI cc)) 4 (nI 0)) 5 (nI 0)) L (va_up (va_up A 13 g) 3 t4) Q) → va_S A0 s.heap H locs → lv_has ls 5 [(0, .ref (h 0)), (1, .int (nI m1)), (2, .int (nI 1)), (3, .int (nI n)), (4, .int (nI k))] → W p l e (headSpec wsX10_read ({ frames := 3, cells := 0, slots := 0, locals := 71 })).room s m ([.ref (h 0)] : List Value).toArray below meth c H locs 0 0 (MQ below (va_Qi (fun (r : Int32) (u : RS) => ∃ i11 : Int32, ∃ i12 : Int32, ∃ i14 : Int32, ∃ i15 : Int32, ∃ i10 : Int32, ∃ a13 : Nat → Int32, ∃ i0 : Int32, ∃ i1 : Int32, ∃ i4 : Int32, ∃ i5 : Int32, ∃ a3 : Nat → Int32, (i10 = nI 0 ∧ ((∃ (i j : Nat) (V : Nat → Nat → Int32), 1 ≤ i ∧ i ≤ 5 ∧ 1 ≤ j ∧ j ≤ 4 ∧ r = nI i ∧ i0 = nI i ∧ i1 = nI j ∧ i4 = nI 0 ∧ i5 = nI 0 ∧ (∀ q : Nat, q < 25 → b9 (a3 q)) ∧ pR (A 9) T 20 0 0 0 0 (nI 0) i j V ∧ (∀ a b : Nat, a < i → b < j → a3 (5 * a + b) = V a b) ∧ ∀ a : Nat, a < 5 → a3 (5 * a + 4) = nI 0) ∨ (∃ (q : Nat) (V : Nat → Nat → Int32), q ≤ T ∧ r = -20 - nI q ∧ pR (A 9) T 20 0 0 0 0 (-20 - nI q) 0 0 V ∧ i0 = I 0 ∧ i1 = I 1 ∧ i4 = I 4 ∧ i5 = I 5 ∧ a3 = A 3))) ∧ u = ((va_up (va_up (va_up (va_up (va_up (va_up (va_up (va_up (va_up I 11 i11) 12 i12) 14 i14) 15 i15) 10 i10) 0 i0) 1 i1) 4 i4) 5 i5), L, (va_up (va_up A 13 a13) 3 a3), Q)) (xB (dC, dI) (tysA cs) A0 (fun u : RS => rW h cs u.1 u.2.1 u.2.2.1 u.2.2.2)) A0) ([.ref (h 0)] : List Value).toArray s 0 0 A0) (F0 m 212 ls []) := by
                        intro nf
                        induction nf with
                        | zero => intro k t4 hm; exact absurd hm (Nat.not_lt_zero _)
                        | succ nf ih_212 =>
                          intro k t4 hm_212 hk212 ht212 hv212 hh212 H locs ls hP hD hS hl
                          refine lv_iload hx hb dX10_read_212 (lv_at hl 4 rfl) ?_
                          refine lv_aload_n hx hb dX10_read_214 rfl (lv_at hl 0 rfl) ?_
                          refine va_get (D := (dC, dI)) (ci := 10) (v := .int (nI cc)) (C := RX10) (T := TX10) (N := 28) hx hb hts hinX10 hown hK hP 0 rfl rfl 1 (by decide) (hts (.fieldLink RX10 13 "MixedWordsModel" "columns" "I") (by decide +kernel)) (fun _ h9 => h9) rfl dX10_read_215 ?_
                          refine xn_ge (tgt := 250) hx hb dX10_read_218 (by decide) (by omega) (by omega) (fun c_218_19 => ?_) (fun c_218_19 => ?_)
                          · skip
                            refine lv_iinc (v := nI (n + 1)) (lv' := [(3, .int (nI (n + 1))), (0, .ref (h 0)), (1, .int (nI m1)), (2, .int (nI 1)), (4, .int (nI k))]) hx hb dX10_read_250 hl (k := 3) rfl (nI_1 _) (by decide) rfl (fun ls hl => ?_)
                            refine lv_goto (tgt := 201) hx hb dX10_read_253 (by decide) ?_
                            exact ih_201 (n + 1) t4 (by omega) (by first | assumption | omega) (by first | exact hz0 | exact ht212) (by first | exact (fun a b hb hab => hv212 a b hb (by omega)) | (intro a b hb hab; omega)) (by first | exact hh212 | exact (fun a ha => hz9 _ (by omega))) _ _ _ hP hD hS (lv_sub hl [1, 2, 3, 0] rfl)
                          · skip
                            refine lv_aload_n hx hb dX10_read_221 rfl (lv_at hl 0 rfl) ?_
                            refine va_get (D := (dC, dI)) (ci := 10) (v := .ref (h 3)) (C := RX10) (T := TX10) (N := 28) hx hb hts hinX10 hown hK hP 0 rfl rfl 3 (by decide) (hts (.fieldLink RX10 19 "MixedWordsModel" "told" "[I") (by decide +kernel)) (fun _ h9 => h9) rfl dX10_read_222 ?_
                            refine lv_aload_n hx hb dX10_read_225 rfl (lv_at hl 0 rfl) ?_
                            refine lv_iload_n hx hb dX10_read_226 rfl (lv_at hl 3 rfl) ?_
                            refine lv_iload hx hb dX10_read_227 (lv_at hl 4 rfl) ?_
                            refine xj_i (wc := (rW h cs (va_up (va_up (va_up (va_up (va_up (va_up (va_up (va_up (va_up I 12 w1) 14 (nI rr)) 15 c15) 11 (nI a1)) 10 (nI 0)) 0 (nI rr)) 1 (nI cc)) 4 (nI 0)) 5 (nI 0)) L (va_up (va_up A 13 g) 3 t4) Q)) (wr := ([] : va_W)) hP hD hS hA [0, 1, 2, 3, 4, 5, 6, 7, 8, 9, 10, 11, 12, 13, 14, 15, 16] [] rfl rfl (by decide +kernel) (by decide +kernel) (va_runV (As := [.int (nI n), .int (nI k)]) (rest := [.ref (h 3)]) ⟨hx, hb, hml, hown, hts⟩ (k_X10_place l dC dI h cs H.size (va_up (va_up (va_up (va_up (va_up (va_up (va_up (va_up (va_up I 12 w1) 14 (nI rr)) 15 c15) 11 (nI a1)) 10 (nI 0)) 0 (nI rr)) 1 (nI cc)) 4 (nI 0)) 5 (nI 0)) L (va_up (va_up A 13 g) 3 t4) Q n k cc (by first | assumption | omega) (by first | assumption | omega) rfl (by first | assumption | omega) (by first | assumption | omega)) (cwV 2 hts gX10_read_X10_place rfl rfl rfl (by decide +kernel) ⟨Nat.le_of_ble_eq_true rfl, Nat.le_of_ble_eq_true rfl⟩) (xpV (wc := (rW h cs (va_up (va_up (va_up (va_up (va_up (va_up (va_up (va_up (va_up I 12 w1) 14 (nI rr)) 15 c15) 11 (nI a1)) 10 (nI 0)) 0 (nI rr)) 1 (nI cc)) 4 (nI 0)) 5 (nI 0)) L (va_up (va_up A 13 g) 3 t4) Q)) hP hD hK hN [0, 1, 2, 3, 4, 5, 6, 7, 8, 9, 10, 11, 12, 13, 14, 15, 16] rfl (by decide) 0 (ci := 10) rfl rfl _) rfl rfl hl.1 rfl (lv_room (Nat.le_of_ble_eq_true rfl)) dX10_read_229 ⟨Nat.zero_le _, Nat.zero_le _⟩) (fun r_22 u_21 H locs hw hP hD hS => ?_)
                            obtain ⟨hf_23, rfl⟩ := hw
                            have hP : va_P (dC, dI) vwCl (rW h cs (va_up (va_up (va_up (va_up (va_up (va_up (va_up (va_up (va_up I 12 w1) 14 (nI rr)) 15 c15) 11 (nI a1)) 10 (nI 0)) 0 (nI rr)) 1 (nI cc)) 4 (nI 0)) 5 (nI 0)) L (va_up (va_up A 13 g) 3 t4) Q) H := hP
                            have hD : va_D A0 (rW h cs (va_up (va_up (va_up (va_up (va_up (va_up (va_up (va_up (va_up I 12 w1) 14 (nI rr)) 15 c15) 11 (nI a1)) 10 (nI 0)) 0 (nI rr)) 1 (nI cc)) 4 (nI 0)) 5 (nI 0)) L (va_up (va_up A 13 g) 3 t4) Q) := hD
                            obtain rfl := hf_23
                            have hpl9 : plc cc n k < 25 := plc_lt (by omega) (by omega) (by omega)
                            refine lv_aload_n hx hb dX10_read_232 rfl (lv_at hl 0 rfl) ?_
                            refine va_get (D := (dC, dI)) (ci := 10) (v := .ref (h 13)) (C := RX10) (T := TX10) (N := 28) hx hb hts hinX10 hown hK hP 0 rfl rfl 13 (by decide) (hts (.fieldLink RX10 35 "MixedWordsModel" "readAt" "[I") (by decide +kernel)) (fun _ h9 => h9) rfl dX10_read_233 ?_
                            refine lv_iconst (v := nI 4) hx hb dX10_read_236 (by decide) ?_
                            refine lv_iload_n hx hb dX10_read_237 rfl (lv_at hl 3 rfl) ?_
                            refine lv_imul hx hb dX10_read_238 ?_
                            refine xt_i (y := nI (4 * n)) (pk_mul _ _) ?_
                            refine lv_iload hx hb dX10_read_239 (lv_at hl 4 rfl) ?_
                            refine lv_iadd hx hb dX10_read_241 ?_
                            refine xt_i (y := nI ((4 * n) + k)) (nI_add _ _) ?_
                            refine xa_iald hx hb hK hP 6 0 rfl rfl (by omega) (by decide) dX10_read_242 ?_
                            refine xa_iast hx hb hK hP hD hS 1 0 rfl rfl (by omega) (by decide) dX10_read_243 (fun H locs hP hD hS => ?_)
                            have hP : va_P (dC, dI) vwCl (rW h cs (va_up (va_up (va_up (va_up (va_up (va_up (va_up (va_up (va_up I 12 w1) 14 (nI rr)) 15 c15) 11 (nI a1)) 10 (nI 0)) 0 (nI rr)) 1 (nI cc)) 4 (nI 0)) 5 (nI 0)) L (va_up (va_up A 13 g) 3 (upd t4 (plc cc n k) (g ((4 * n) + k)))) Q) H := hP
                            have hD : va_D A0 (rW h cs (va_up (va_up (va_up (va_up (va_up (va_up (va_up (va_up (va_up I 12 w1) 14 (nI rr)) 15 c15) 11 (nI a1)) 10 (nI 0)) 0 (nI rr)) 1 (nI cc)) 4 (nI 0)) 5 (nI 0)) L (va_up (va_up A 13 g) 3 (upd t4 (plc cc n k) (g ((4 * n) + k)))) Q) := hD
                            refine lv_iinc (v := nI (k + 1)) (lv' := [(4, .int (nI (k + 1))), (0, .ref (h 0)), (1, .int (nI m1)), (2, .int (nI 1)), (3, .int (nI n))]) hx hb dX10_read_244 hl (k := 4) rfl (nI_1 _) (by decide) rfl (fun ls hl => ?_)
                            refine lv_goto (tgt := 212) hx hb dX10_read_247 (by decide) ?_
                            exact ih_212 (k + 1) (upd t4 (plc cc n k) (g ((4 * n) + k))) (by omega) (by first | assumption | omega) (by first | exact ht201 | exact b9_upd ht212 (hb17 (by assumption) n k (by omega) (by omega))) (by first | exact hv201 | exact (tw_s (by omega) (by omega) (by omega) hv212 hh212).1) (by first | exact hh201 | exact (tw_s (by omega) (by omega) (by omega) hv212 hh212).2) _ _ _ hP hD hS (lv_sub hl [1, 2, 3, 4, 0] rfl)
                      exact cut_212 _ 0 t3 (Nat.lt_succ_self _) (by first | assumption | omega) (by first | exact ht201 | exact b9_upd ht212 (hb17 (by assumption) n k (by omega) (by omega))) (by first | exact hv201 | exact (tw_s (by omega) (by omega) (by omega) hv212 hh212).1) (by first | exact hh201 | exact (tw_s (by omega) (by omega) (by omega) hv212 hh212).2) _ _ _ hP hD hS (lv_sub hl [1, 2, 3, 4, 0] rfl)
                exact cut_201 _ 0 f_17 (Nat.lt_succ_self _) (by first | assumption | omega) (by first | exact hz0 | exact ht212) (by first | exact (fun a b hb hab => hv212 a b hb (by omega)) | (intro a b hb hab; omega)) (by first | exact hh212 | exact (fun a ha => hz9 _ (by omega))) _ _ _ hP hD hS (lv_sub hl [2, 3, 1, 0] rfl)
              · skip
                exact (hn9 rr cc (by omega) (by omega) (by omega) (by omega) rfl rfl).elim
            · skip
              exact absurd hwl c_175_9
          · skip
            have hlT : a1 < T := Decidable.byContradiction (fun q9 => c_155_8 ((nz_c hnz).mpr q9))
            refine lv_aload_n hx hb dX10_read_158 rfl (lv_at hl 0 rfl) ?_
            refine lv_aload_n hx hb dX10_read_159 rfl (lv_at hl 0 rfl) ?_
            refine va_get (D := (dC, dI)) (ci := 10) (v := .int (nI a1)) (C := RX10) (T := TX10) (N := 28) hx hb hts hinX10 hown hK hP 0 rfl rfl 11 (by decide) (hts (.fieldLink RX10 119 "MixedWordsModel" "at" "I") (by decide +kernel)) (fun _ h9 => h9) rfl dX10_read_160 ?_
            refine xj_v (wc := (rW h cs (va_up (va_up (va_up (va_up I 12 w1) 14 (nI rr)) 15 c15) 11 (nI a1)) L (va_up A 13 g) Q)) (wr := ([] : va_W)) hP hD hS hA [0, 1, 2, 3, 4, 5, 6, 7, 8, 9, 10, 11, 12, 13, 14, 15, 16] [] rfl rfl (by decide +kernel) (by decide +kernel) (va_runV (As := [.int (nI a1)]) (rest := []) ⟨hx, hb, hml, hown, hts⟩ (k_X10_fails l dC dI h cs H.size (va_up (va_up (va_up (va_up I 12 w1) 14 (nI rr)) 15 c15) 11 (nI a1)) L (va_up A 13 g) Q a1) (cwV 1 hts gX10_read_X10_fails rfl rfl rfl (by decide +kernel) ⟨Nat.le_of_ble_eq_true rfl, Nat.le_of_ble_eq_true rfl⟩) (xpV (wc := (rW h cs (va_up (va_up (va_up (va_up I 12 w1) 14 (nI rr)) 15 c15) 11 (nI a1)) L (va_up A 13 g) Q)) hP hD hK hN [0, 1, 2, 3, 4, 5, 6, 7, 8, 9, 10, 11, 12, 13, 14, 15, 16] rfl (by decide) 0 (ci := 10) rfl rfl _) rfl rfl hl.1 rfl (lv_room (Nat.le_of_ble_eq_true rfl)) dX10_read_163 ⟨Nat.zero_le _, Nat.zero_le _⟩) (fun u_24 H locs hw hP hD hS => ?_)
            obtain ⟨x12_26, hf_27, rfl⟩ := hw
            have hP : va_P (dC, dI) vwCl (rW h cs (va_up (va_up (va_up (va_up I 14 (nI rr)) 15 c15) 11 (nI a1)) 12 x12_26) L (va_up A 13 g) Q) H := hP
            have hD : va_D A0 (rW h cs (va_up (va_up (va_up (va_up I 14 (nI rr)) 15 c15) 11 (nI a1)) 12 x12_26) L (va_up A 13 g) Q) := hD
            have hx12 := hf_27
            obtain rfl : x12_26 = nI a1 := by rw [hx12]; exact if_pos hwl
            have hfl : ¬ nI a1 < 0 := nI_pos (show a1 < 2 ^ 31 by omega)
            have hflt := KM_flt hKM (fun q9 => q9.1 hlT) (fun q9 => hE44 ⟨q9.1, by have q8 := q9.2; split at q8 <;> split <;> omega⟩) (fun q9 => hE59 ⟨q9.1, by omega⟩)
            refine lv_aload_n hx hb dX10_read_166 rfl (lv_at hl 0 rfl) ?_
            refine lv_iconst (v := nI 0) hx hb dX10_read_167 (by decide) ?_
            refine va_put (D := (dC, dI)) (ci := 10) (v := .int (nI 0)) (ty := .int) (C := RX10) (T := TX10) (N := 28) hx hb hts hinX10 tyX10 tyX10_ok nmX10 hown hK hP hD hS 0 rfl rfl 10 (by decide) (hts (.fieldLink RX10 116 "MixedWordsModel" "taped" "I") (by decide +kernel)) (fun _ h9 => h9) rfl (by decide +kernel) rfl rfl (Nat.le_of_ble_eq_true rfl) dX10_read_168 (fun H locs hP hD hS => ?_)
            have hP : va_P (dC, dI) vwCl (rW h cs (va_up (va_up (va_up (va_up (va_up I 14 (nI rr)) 15 c15) 11 (nI a1)) 12 (nI a1)) 10 (nI 0)) L (va_up A 13 g) Q) H := hP
            have hD : va_D A0 (rW h cs (va_up (va_up (va_up (va_up (va_up I 14 (nI rr)) 15 c15) 11 (nI a1)) 12 (nI a1)) 10 (nI 0)) L (va_up A 13 g) Q) := hD
            refine lv_aload_n hx hb dX10_read_171 rfl (lv_at hl 0 rfl) ?_
            refine va_get (D := (dC, dI)) (ci := 10) (v := .int (nI a1)) (C := RX10) (T := TX10) (N := 28) hx hb hts hinX10 hown hK hP 0 rfl rfl 12 (by decide) (hts (.fieldLink RX10 122 "MixedWordsModel" "wrong" "I") (by decide +kernel)) (fun _ h9 => h9) rfl dX10_read_172 ?_
            refine lv_if_lt (tgt := 186) hx hb dX10_read_175 (by decide) (fun c_175_27 => ?_) (fun c_175_27 => ?_)
            · skip
              exact absurd c_175_27 hfl
            · skip
              refine lv_bipush (v := (-20)) hx hb dX10_read_178 (by decide) ?_
              refine lv_aload_n hx hb dX10_read_180 rfl (lv_at hl 0 rfl) ?_
              refine va_get (D := (dC, dI)) (ci := 10) (v := .int (nI a1)) (C := RX10) (T := TX10) (N := 28) hx hb hts hinX10 hown hK hP 0 rfl rfl 12 (by decide) (hts (.fieldLink RX10 122 "MixedWordsModel" "wrong" "I") (by decide +kernel)) (fun _ h9 => h9) rfl dX10_read_181 ?_
              refine lv_isub hx hb dX10_read_184 ?_
              exact xr_i (v := ((-20) - (nI a1))) hx hb hr hlocks hK hS dX10_read_185 ((va_up (va_up (va_up (va_up (va_up (va_up (va_up (va_up (va_up I 11 (nI a1)) 12 (nI a1)) 14 (nI rr)) 15 c15) 10 (nI 0)) 0 (I 0)) 1 (I 1)) 4 (I 4)) 5 (I 5)), L, (va_up (va_up A 13 g) 3 (A 3)), Q) ⟨(nI a1), (nI a1), (nI rr), c15, (nI 0), g, (I 0), (I 1), (I 4), (I 5), (A 3), ⟨rfl, Or.inr ⟨a1, _, by omega, rfl, hflt, rfl, rfl, rfl, rfl, rfl⟩⟩, rfl⟩ hP hD
      · skip
        have hm1 := hmr17 (by omega)
        refine lv_aload_n hx hb dX10_read_21 rfl (lv_at hl 0 rfl) ?_
        refine lv_aload_n hx hb dX10_read_22 rfl (lv_at hl 0 rfl) ?_
        refine va_get (D := (dC, dI)) (ci := 10) (v := .int (nI rr)) (C := RX10) (T := TX10) (N := 28) hx hb hts hinX10 hown hK hP 0 rfl rfl 14 (by decide) (hts (.fieldLink RX10 137 "MixedWordsModel" "readRows" "I") (by decide +kernel)) (fun _ h9 => h9) rfl dX10_read_23 ?_
        refine xz_ne (tgt := 33) hx hb dX10_read_26 (by decide) (by omega) (fun c_26_28 => ?_) (fun c_26_28 => ?_)
        · skip
          refine lv_aload_n hx hb dX10_read_33 rfl (lv_at hl 0 rfl) ?_
          refine va_get (D := (dC, dI)) (ci := 10) (v := .int c15) (C := RX10) (T := TX10) (N := 28) hx hb hts hinX10 hown hK hP 0 rfl rfl 15 (by decide) (hts (.fieldLink RX10 143 "MixedWordsModel" "readColumns" "I") (by decide +kernel)) (fun _ h9 => h9) rfl dX10_read_34 ?_
          obtain ⟨hc1, hc2, hc3⟩ := hc17 (by omega)
          refine xt_i (y := nI cc) (hc1) ?_
          have hcc4 : cc ≤ 4 := by omega
          have hmul := rd_mul hm1.1 hcc4
          refine xj_i (wc := (rW h cs (va_up (va_up (va_up (va_up I 11 (nI a1)) 12 w1) 14 (nI rr)) 15 c15) L (va_up A 13 g) Q)) (wr := ([] : va_W)) hP hD hS hA [0, 1, 2, 3, 4, 5, 6, 7, 8, 9, 10, 11, 12, 13, 14, 15, 16] [] rfl rfl (by decide +kernel) (by decide +kernel) (va_runV (As := [.int (nI cc)]) (rest := []) ⟨hx, hb, hml, hown, hts⟩ (k_X10_row l dC dI h cs H.size (va_up (va_up (va_up (va_up I 11 (nI a1)) 12 w1) 14 (nI rr)) 15 c15) L (va_up A 13 g) Q cc T a1 rr (by first | assumption | omega) (by first | assumption | omega) hT (by first | assumption | omega | exact hT9) rfl (by first | assumption | omega) rfl (by first | assumption | omega)) (cwV 1 hts gX10_read_X10_row rfl rfl rfl (by decide +kernel) ⟨Nat.le_of_ble_eq_true rfl, Nat.le_of_ble_eq_true rfl⟩) (xpV (wc := (rW h cs (va_up (va_up (va_up (va_up I 11 (nI a1)) 12 w1) 14 (nI rr)) 15 c15) L (va_up A 13 g) Q)) hP hD hK hN [0, 1, 2, 3, 4, 5, 6, 7, 8, 9, 10, 11, 12, 13, 14, 15, 16] rfl (by decide) 0 (ci := 10) rfl rfl _) rfl rfl hl.1 rfl (lv_room (Nat.le_of_ble_eq_true rfl)) dX10_read_37 ⟨Nat.zero_le _, Nat.zero_le _⟩) (fun r_31 u_30 H locs hw hP hD hS => ?_)
          obtain ⟨x11_32, x12_33, f13_34, hf_35, rfl⟩ := hw
          have hP : va_P (dC, dI) vwCl (rW h cs (va_up (va_up (va_up (va_up I 14 (nI rr)) 15 c15) 11 x11_32) 12 x12_33) L (va_up A 13 f13_34) Q) H := hP
          have hD : va_D A0 (rW h cs (va_up (va_up (va_up (va_up I 14 (nI rr)) 15 c15) 11 x11_32) 12 x12_33) L (va_up A 13 f13_34) Q) := hD
          obtain ⟨n_36, a_37, rfl, rfl, hn1, hn2, ha2, hrow9, hkp9⟩ := hf_35
          have hrb9 := rowS_ok hT9 _ _ _ _ _ hrow9
          have hK9 : Hid9 _ := (rowS_K hT9 hm1.2 (by rw [if_neg (by omega)]) (by omega) (hk17 (by omega)) _ _ _ _ false hn2 hrow9).2 rfl
          clear hrow9
          refine lv_istore_n (lv' := [(2, .int (nI n_36)), (0, .ref (h 0)), (1, .int (nI m1))]) hx hb dX10_read_40 rfl hl (by decide) rfl (fun ls hl => ?_)
          refine lv_aload_n hx hb dX10_read_41 rfl (lv_at hl 1 rfl) ?_
          refine lv_aload_n hx hb dX10_read_42 rfl (lv_at hl 1 rfl) ?_
          refine va_get (D := (dC, dI)) (ci := 10) (v := .int (nI rr)) (C := RX10) (T := TX10) (N := 28) hx hb hts hinX10 hown hK hP 0 rfl rfl 14 (by decide) (hts (.fieldLink RX10 137 "MixedWordsModel" "readRows" "I") (by decide +kernel)) (fun _ h9 => h9) rfl dX10_read_43 ?_
          refine xz_ne (tgt := 53) hx hb dX10_read_46 (by decide) (by omega) (fun c_46_37 => ?_) (fun c_46_37 => ?_)
          · skip
            refine lv_aload_n hx hb dX10_read_53 rfl (lv_at hl 1 rfl) ?_
            refine va_get (D := (dC, dI)) (ci := 10) (v := .int c15) (C := RX10) (T := TX10) (N := 28) hx hb hts hinX10 hown hK hP 0 rfl rfl 15 (by decide) (hts (.fieldLink RX10 143 "MixedWordsModel" "readColumns" "I") (by decide +kernel)) (fun _ h9 => h9) rfl dX10_read_54 ?_
            refine xt_i (y := nI cc) (hc1) ?_
            refine va_put (D := (dC, dI)) (ci := 10) (v := .int (nI cc)) (ty := .int) (C := RX10) (T := TX10) (N := 28) hx hb hts hinX10 tyX10 tyX10_ok nmX10 hown hK hP hD hS 0 rfl rfl 15 (by decide) (hts (.fieldLink RX10 143 "MixedWordsModel" "readColumns" "I") (by decide +kernel)) (fun _ h9 => h9) rfl (by decide +kernel) rfl rfl (Nat.le_of_ble_eq_true rfl) dX10_read_57 (fun H locs hP hD hS => ?_)
            have hP : va_P (dC, dI) vwCl (rW h cs (va_up (va_up (va_up (va_up I 14 (nI rr)) 12 x12_33) 11 (nI a_37)) 15 (nI cc)) L (va_up A 13 f13_34) Q) H := hP
            have hD : va_D A0 (rW h cs (va_up (va_up (va_up (va_up I 14 (nI rr)) 12 x12_33) 11 (nI a_37)) 15 (nI cc)) L (va_up A 13 f13_34) Q) := hD
            refine lv_aload_n hx hb dX10_read_60 rfl (lv_at hl 1 rfl) ?_
            refine va_get (D := (dC, dI)) (ci := 10) (v := .int x12_33) (C := RX10) (T := TX10) (N := 28) hx hb hts hinX10 hown hK hP 0 rfl rfl 12 (by decide) (hts (.fieldLink RX10 122 "MixedWordsModel" "wrong" "I") (by decide +kernel)) (fun _ h9 => h9) rfl dX10_read_61 ?_
            refine lv_if_ge (tgt := 83) hx hb dX10_read_64 (by decide) (fun c_64_38 => ?_) (fun c_64_38 => ?_)
            · skip
              have hwp := c_64_38
              refine lv_aload_n hx hb dX10_read_83 rfl (lv_at hl 1 rfl) ?_
              refine lv_dup hx hb dX10_read_84 rfl ?_
              refine va_get (D := (dC, dI)) (ci := 10) (v := .int (nI rr)) (C := RX10) (T := TX10) (N := 28) hx hb hts hinX10 hown hK hP 0 rfl rfl 14 (by decide) (hts (.fieldLink RX10 137 "MixedWordsModel" "readRows" "I") (by decide +kernel)) (fun _ h9 => h9) rfl dX10_read_85 ?_
              refine lv_iconst (v := nI 1) hx hb dX10_read_88 (by decide) ?_
              refine lv_iadd hx hb dX10_read_89 ?_
              refine xt_i (y := nI (rr + 1)) (nI_add _ _) ?_
              refine va_put (D := (dC, dI)) (ci := 10) (v := .int (nI (rr + 1))) (ty := .int) (C := RX10) (T := TX10) (N := 28) hx hb hts hinX10 tyX10 tyX10_ok nmX10 hown hK hP hD hS 0 rfl rfl 14 (by decide) (hts (.fieldLink RX10 137 "MixedWordsModel" "readRows" "I") (by decide +kernel)) (fun _ h9 => h9) rfl (by decide +kernel) rfl rfl (Nat.le_of_ble_eq_true rfl) dX10_read_90 (fun H locs hP hD hS => ?_)
              have hP : va_P (dC, dI) vwCl (rW h cs (va_up (va_up (va_up (va_up I 12 x12_33) 11 (nI a_37)) 15 (nI cc)) 14 (nI (rr + 1))) L (va_up A 13 f13_34) Q) H := hP
              have hD : va_D A0 (rW h cs (va_up (va_up (va_up (va_up I 12 x12_33) 11 (nI a_37)) 15 (nI cc)) 14 (nI (rr + 1))) L (va_up A 13 f13_34) Q) := hD
              refine lv_aload_n hx hb dX10_read_93 rfl (lv_at hl 1 rfl) ?_
              refine va_get (D := (dC, dI)) (ci := 10) (v := .int x12_33) (C := RX10) (T := TX10) (N := 28) hx hb hts hinX10 hown hK hP 0 rfl rfl 12 (by decide) (hts (.fieldLink RX10 122 "MixedWordsModel" "wrong" "I") (by decide +kernel)) (fun _ h9 => h9) rfl dX10_read_94 ?_
              refine lv_if_ge (tgt := 121) hx hb dX10_read_97 (by decide) (fun c_97_39 => ?_) (fun c_97_39 => ?_)
              · skip
                refine lv_iconst (v := nI 0) hx hb dX10_read_121 (by decide) ?_
                refine lv_istore_n (lv' := [(1, .int (nI 0)), (2, .int (nI n_36)), (0, .ref (h 0))]) hx hb dX10_read_122 rfl hl (by decide) rfl (fun ls hl => ?_)
                refine lv_aload_n hx hb dX10_read_123 rfl (lv_at hl 2 rfl) ?_
                refine lv_dup hx hb dX10_read_124 rfl ?_
                refine va_get (D := (dC, dI)) (ci := 10) (v := .int (nI a_37)) (C := RX10) (T := TX10) (N := 28) hx hb hts hinX10 hown hK hP 0 rfl rfl 11 (by decide) (hts (.fieldLink RX10 119 "MixedWordsModel" "at" "I") (by decide +kernel)) (fun _ h9 => h9) rfl dX10_read_125 ?_
                refine lv_iload_n hx hb dX10_read_128 rfl (lv_at hl 0 rfl) ?_
                refine lv_if_eq (tgt := 136) hx hb dX10_read_129 (by decide) (fun _ => ?_) (fun c9 => False.elim (by revert c9; decide +kernel))
                refine lv_iconst (v := nI 0) hx hb dX10_read_136 (by decide) ?_
                refine lv_iadd hx hb dX10_read_137 ?_
                refine xt_i (y := nI (a_37 + 0)) (nI_add _ _) ?_
                refine va_put (D := (dC, dI)) (ci := 10) (v := .int (nI (a_37 + 0))) (ty := .int) (C := RX10) (T := TX10) (N := 28) hx hb hts hinX10 tyX10 tyX10_ok nmX10 hown hK hP hD hS 0 rfl rfl 11 (by decide) (hts (.fieldLink RX10 119 "MixedWordsModel" "at" "I") (by decide +kernel)) (fun _ h9 => h9) rfl (by decide +kernel) rfl rfl (Nat.le_of_ble_eq_true rfl) dX10_read_138 (fun H locs hP hD hS => ?_)
                have hP : va_P (dC, dI) vwCl (rW h cs (va_up (va_up (va_up (va_up I 12 x12_33) 15 (nI cc)) 14 (nI (rr + 1))) 11 (nI (a_37 + 0))) L (va_up A 13 f13_34) Q) H := hP
                have hD : va_D A0 (rW h cs (va_up (va_up (va_up (va_up I 12 x12_33) 15 (nI cc)) 14 (nI (rr + 1))) 11 (nI (a_37 + 0))) L (va_up A 13 f13_34) Q) := hD
                refine lv_goto (tgt := 17) hx hb dX10_read_141 (by decide) ?_
                exact ih_17 0 (rr + 1) cc (nI cc) (a_37 + 0) x12_33 f13_34 (by omega) (by first | assumption | omega) (by first | assumption | omega) (by first | exact (fun _ => ⟨by omega, by decide⟩) | exact (fun h9 => absurd h9 (by omega)) | exact (fun _ => ⟨by omega, by assumption⟩)) (by first | assumption | omega) (by first | exact (fun h9 => absurd h9 (by omega)) | exact (fun _ => ⟨rfl, by omega, by omega⟩)) (by first | exact (fun h9 => absurd h9 (by omega)) | exact (fun _ => by omega)) (by first | exact (fun _ i j hi => absurd hi (by omega)) | exact (fun h9 => absurd h9 hfl) | exact (fun h9 => absurd h9 (Int32.not_lt.mpr (by assumption))) | exact (fun h9 => rd_b hkp9 (fun i j a b => hb17 hm1.2 i j a b) (hrb9 h9) (by omega) (by omega)) | exact (fun h9 => rd_b hkp9 (fun i j a b => absurd a (by omega)) (hrb9 h9) (by omega) (by omega))) (by first | exact (fun _ => rfl) | exact (fun h9 => absurd h9 (by omega))) (fun h9 => absurd h9 (by omega)) (fun _ => Or.inl (by rcases hK9 with ⟨-, q9, hq9, hw9, hp9⟩ | ⟨hw9, -⟩; (· exact ⟨q9, _, hq9, hw9, hp9⟩); (· exact absurd hw9 (Int32.not_lt.mpr hwp)))) _ _ _ hP hD hS (lv_sub hl [2, 0] rfl)
              · skip
                exact absurd hwp c_97_39
            · skip
              have hwl := Int32.not_le.mp c_64_38
              rcases hK9 with ⟨hw9, -⟩ | ⟨-, -, hsk9, hnc9, hKM0⟩
              · exact absurd hw9 c_64_38
              have hKM := KM_q hKM0 (gV_flat hkp9 hcc4)
              clear hKM0
              have hnc9 : ¬ (isC (A 9) T a_37 44 ∧ n_36 < (if rr = 0 then 4 else cc)) := fun q9 => hnc9 ⟨q9.1, by have q8 := q9.2; split at q8 <;> omega⟩
              refine lv_iload_n hx hb dX10_read_67 rfl (lv_at hl 0 rfl) ?_
              refine lv_aload_n hx hb dX10_read_68 rfl (lv_at hl 1 rfl) ?_
              refine va_get (D := (dC, dI)) (ci := 10) (v := .int (nI cc)) (C := RX10) (T := TX10) (N := 28) hx hb hts hinX10 hown hK hP 0 rfl rfl 15 (by decide) (hts (.fieldLink RX10 143 "MixedWordsModel" "readColumns" "I") (by decide +kernel)) (fun _ h9 => h9) rfl dX10_read_69 ?_
              refine xn_ge (tgt := 83) hx hb dX10_read_72 (by decide) (by omega) (by omega) (fun c_72_40 => ?_) (fun c_72_40 => ?_)
              · skip
                refine lv_aload_n hx hb dX10_read_83 rfl (lv_at hl 1 rfl) ?_
                refine lv_dup hx hb dX10_read_84 rfl ?_
                refine va_get (D := (dC, dI)) (ci := 10) (v := .int (nI rr)) (C := RX10) (T := TX10) (N := 28) hx hb hts hinX10 hown hK hP 0 rfl rfl 14 (by decide) (hts (.fieldLink RX10 137 "MixedWordsModel" "readRows" "I") (by decide +kernel)) (fun _ h9 => h9) rfl dX10_read_85 ?_
                refine lv_iconst (v := nI 1) hx hb dX10_read_88 (by decide) ?_
                refine lv_iadd hx hb dX10_read_89 ?_
                refine xt_i (y := nI (rr + 1)) (nI_add _ _) ?_
                refine va_put (D := (dC, dI)) (ci := 10) (v := .int (nI (rr + 1))) (ty := .int) (C := RX10) (T := TX10) (N := 28) hx hb hts hinX10 tyX10 tyX10_ok nmX10 hown hK hP hD hS 0 rfl rfl 14 (by decide) (hts (.fieldLink RX10 137 "MixedWordsModel" "readRows" "I") (by decide +kernel)) (fun _ h9 => h9) rfl (by decide +kernel) rfl rfl (Nat.le_of_ble_eq_true rfl) dX10_read_90 (fun H locs hP hD hS => ?_)
                have hP : va_P (dC, dI) vwCl (rW h cs (va_up (va_up (va_up (va_up I 12 x12_33) 11 (nI a_37)) 15 (nI cc)) 14 (nI (rr + 1))) L (va_up A 13 f13_34) Q) H := hP
                have hD : va_D A0 (rW h cs (va_up (va_up (va_up (va_up I 12 x12_33) 11 (nI a_37)) 15 (nI cc)) 14 (nI (rr + 1))) L (va_up A 13 f13_34) Q) := hD
                refine lv_aload_n hx hb dX10_read_93 rfl (lv_at hl 1 rfl) ?_
                refine va_get (D := (dC, dI)) (ci := 10) (v := .int x12_33) (C := RX10) (T := TX10) (N := 28) hx hb hts hinX10 hown hK hP 0 rfl rfl 12 (by decide) (hts (.fieldLink RX10 122 "MixedWordsModel" "wrong" "I") (by decide +kernel)) (fun _ h9 => h9) rfl dX10_read_94 ?_
                refine lv_if_ge (tgt := 121) hx hb dX10_read_97 (by decide) (fun c_97_41 => ?_) (fun c_97_41 => ?_)
                · skip
                  exact absurd c_97_41 (Int32.not_le.mpr hwl)
                · skip
                  refine lv_aload_n hx hb dX10_read_100 rfl (lv_at hl 1 rfl) ?_
                  refine xj_i (wc := (rW h cs (va_up (va_up (va_up (va_up I 12 x12_33) 11 (nI a_37)) 15 (nI cc)) 14 (nI (rr + 1))) L (va_up A 13 f13_34) Q)) (wr := ([] : va_W)) hP hD hS hA [0, 1, 2, 3, 4, 5, 6, 7, 8, 9, 10, 11, 12, 13, 14, 15, 16] [] rfl rfl (by decide +kernel) (by decide +kernel) (va_runV (As := []) (rest := []) ⟨hx, hb, hml, hown, hts⟩ (k_X10_next l dC dI h cs H.size (va_up (va_up (va_up (va_up I 12 x12_33) 11 (nI a_37)) 15 (nI cc)) 14 (nI (rr + 1))) L (va_up A 13 f13_34) Q T a_37 hT (by first | assumption | omega | exact hT9) rfl (by first | assumption | omega)) (cwV 0 hts gX10_read_X10_next rfl rfl rfl (by decide +kernel) ⟨Nat.le_of_ble_eq_true rfl, Nat.le_of_ble_eq_true rfl⟩) (xpV (wc := (rW h cs (va_up (va_up (va_up (va_up I 12 x12_33) 11 (nI a_37)) 15 (nI cc)) 14 (nI (rr + 1))) L (va_up A 13 f13_34) Q)) hP hD hK hN [0, 1, 2, 3, 4, 5, 6, 7, 8, 9, 10, 11, 12, 13, 14, 15, 16] rfl (by decide) 0 (ci := 10) rfl rfl _) rfl rfl hl.1 rfl (lv_room (Nat.le_of_ble_eq_true rfl)) dX10_read_101 ⟨Nat.zero_le _, Nat.zero_le _⟩) (fun r_44 u_43 H locs hw hP hD hS => ?_)
                  obtain ⟨x11_45, hf_46, rfl⟩ := hw
                  have hP : va_P (dC, dI) vwCl (rW h cs (va_up (va_up (va_up (va_up I 12 x12_33) 15 (nI cc)) 14 (nI (rr + 1))) 11 x11_45) L (va_up A 13 f13_34) Q) H := hP
                  have hD : va_D A0 (rW h cs (va_up (va_up (va_up (va_up I 12 x12_33) 15 (nI cc)) 14 (nI (rr + 1))) 11 x11_45) L (va_up A 13 f13_34) Q) := hD
                  obtain ⟨j_47, hskj, rfl, rfl⟩ := hf_46
                  obtain rfl := sk_u hsk9 hskj
                  refine lv_bipush (v := nI 59) hx hb dX10_read_104 (by decide) ?_
                  refine lv_icmp_ne (tgt := 121) hx hb dX10_read_106 (by decide) (fun c_106_47 => ?_) (fun c_106_47 => ?_)
                  · skip
                    refine lv_iconst (v := nI 0) hx hb dX10_read_121 (by decide) ?_
                    refine lv_istore_n (lv' := [(1, .int (nI 0)), (2, .int (nI n_36)), (0, .ref (h 0))]) hx hb dX10_read_122 rfl hl (by decide) rfl (fun ls hl => ?_)
                    refine lv_aload_n hx hb dX10_read_123 rfl (lv_at hl 2 rfl) ?_
                    refine lv_dup hx hb dX10_read_124 rfl ?_
                    refine va_get (D := (dC, dI)) (ci := 10) (v := .int (nI a_37)) (C := RX10) (T := TX10) (N := 28) hx hb hts hinX10 hown hK hP 0 rfl rfl 11 (by decide) (hts (.fieldLink RX10 119 "MixedWordsModel" "at" "I") (by decide +kernel)) (fun _ h9 => h9) rfl dX10_read_125 ?_
                    refine lv_iload_n hx hb dX10_read_128 rfl (lv_at hl 0 rfl) ?_
                    refine lv_if_eq (tgt := 136) hx hb dX10_read_129 (by decide) (fun _ => ?_) (fun c9 => False.elim (by revert c9; decide +kernel))
                    refine lv_iconst (v := nI 0) hx hb dX10_read_136 (by decide) ?_
                    refine lv_iadd hx hb dX10_read_137 ?_
                    refine xt_i (y := nI (a_37 + 0)) (nI_add _ _) ?_
                    refine va_put (D := (dC, dI)) (ci := 10) (v := .int (nI (a_37 + 0))) (ty := .int) (C := RX10) (T := TX10) (N := 28) hx hb hts hinX10 tyX10 tyX10_ok nmX10 hown hK hP hD hS 0 rfl rfl 11 (by decide) (hts (.fieldLink RX10 119 "MixedWordsModel" "at" "I") (by decide +kernel)) (fun _ h9 => h9) rfl (by decide +kernel) rfl rfl (Nat.le_of_ble_eq_true rfl) dX10_read_138 (fun H locs hP hD hS => ?_)
                    have hP : va_P (dC, dI) vwCl (rW h cs (va_up (va_up (va_up (va_up I 12 x12_33) 15 (nI cc)) 14 (nI (rr + 1))) 11 (nI (a_37 + 0))) L (va_up A 13 f13_34) Q) H := hP
                    have hD : va_D A0 (rW h cs (va_up (va_up (va_up (va_up I 12 x12_33) 15 (nI cc)) 14 (nI (rr + 1))) 11 (nI (a_37 + 0))) L (va_up A 13 f13_34) Q) := hD
                    refine lv_goto (tgt := 17) hx hb dX10_read_141 (by decide) ?_
                    exact ih_17 0 (rr + 1) cc (nI cc) (a_37 + 0) x12_33 f13_34 (by omega) (by first | assumption | omega) (by first | assumption | omega) (by first | exact (fun _ => ⟨by omega, by decide⟩) | exact (fun h9 => absurd h9 (by omega)) | exact (fun _ => ⟨by omega, by assumption⟩)) (by first | assumption | omega) (by first | exact (fun h9 => absurd h9 (by omega)) | exact (fun _ => ⟨rfl, by omega, by omega⟩)) (by first | exact (fun h9 => absurd h9 (by omega)) | exact (fun _ => by omega)) (by first | exact (fun _ i j hi => absurd hi (by omega)) | exact (fun h9 => absurd h9 hfl) | exact (fun h9 => absurd h9 (Int32.not_lt.mpr (by assumption))) | exact (fun h9 => rd_b hkp9 (fun i j a b => hb17 hm1.2 i j a b) (hrb9 h9) (by omega) (by omega)) | exact (fun h9 => rd_b hkp9 (fun i j a b => absurd a (by omega)) (hrb9 h9) (by omega) (by omega))) (by first | exact (fun _ => rfl) | exact (fun h9 => absurd h9 (by omega))) (fun h9 => absurd h9 (by omega)) (fun _ => Or.inr ⟨hwl, hsk9, cc, by omega, by first | exact (fun q9 => by omega) | exact (fun q9 => absurd ((tp_c (by decide) (by decide)).mpr q9.1) (by assumption)), fun q9 => hnc9 ⟨q9.1, by have q8 := q9.2; split at q8 <;> split <;> omega⟩, by have q9 := hKM; rw [(show rr * cc + n_36 = (rr + 1) * cc from by rw [Nat.succ_mul]; omega)] at q9; rw [(show n_36 = cc by omega)] at q9; exact q9⟩) _ _ _ hP hD hS (lv_sub hl [2, 0] rfl)
                  · skip
                    have hcT := tp_ltc (by decide) (by decide) c_106_47
                    refine lv_aload_n hx hb dX10_read_109 rfl (lv_at hl 1 rfl) ?_
                    refine va_get (D := (dC, dI)) (ci := 10) (v := .int (nI (rr + 1))) (C := RX10) (T := TX10) (N := 28) hx hb hts hinX10 hown hK hP 0 rfl rfl 14 (by decide) (hts (.fieldLink RX10 137 "MixedWordsModel" "readRows" "I") (by decide +kernel)) (fun _ h9 => h9) rfl dX10_read_110 ?_
                    refine lv_iconst (v := nI 5) hx hb dX10_read_113 (by decide) ?_
                    refine xn_ge (tgt := 121) hx hb dX10_read_114 (by decide) (by omega) (by omega) (fun c_114_48 => ?_) (fun c_114_48 => ?_)
                    · skip
                      refine lv_iconst (v := nI 0) hx hb dX10_read_121 (by decide) ?_
                      refine lv_istore_n (lv' := [(1, .int (nI 0)), (2, .int (nI n_36)), (0, .ref (h 0))]) hx hb dX10_read_122 rfl hl (by decide) rfl (fun ls hl => ?_)
                      refine lv_aload_n hx hb dX10_read_123 rfl (lv_at hl 2 rfl) ?_
                      refine lv_dup hx hb dX10_read_124 rfl ?_
                      refine va_get (D := (dC, dI)) (ci := 10) (v := .int (nI a_37)) (C := RX10) (T := TX10) (N := 28) hx hb hts hinX10 hown hK hP 0 rfl rfl 11 (by decide) (hts (.fieldLink RX10 119 "MixedWordsModel" "at" "I") (by decide +kernel)) (fun _ h9 => h9) rfl dX10_read_125 ?_
                      refine lv_iload_n hx hb dX10_read_128 rfl (lv_at hl 0 rfl) ?_
                      refine lv_if_eq (tgt := 136) hx hb dX10_read_129 (by decide) (fun _ => ?_) (fun c9 => False.elim (by revert c9; decide +kernel))
                      refine lv_iconst (v := nI 0) hx hb dX10_read_136 (by decide) ?_
                      refine lv_iadd hx hb dX10_read_137 ?_
                      refine xt_i (y := nI (a_37 + 0)) (nI_add _ _) ?_
                      refine va_put (D := (dC, dI)) (ci := 10) (v := .int (nI (a_37 + 0))) (ty := .int) (C := RX10) (T := TX10) (N := 28) hx hb hts hinX10 tyX10 tyX10_ok nmX10 hown hK hP hD hS 0 rfl rfl 11 (by decide) (hts (.fieldLink RX10 119 "MixedWordsModel" "at" "I") (by decide +kernel)) (fun _ h9 => h9) rfl (by decide +kernel) rfl rfl (Nat.le_of_ble_eq_true rfl) dX10_read_138 (fun H locs hP hD hS => ?_)
                      have hP : va_P (dC, dI) vwCl (rW h cs (va_up (va_up (va_up (va_up I 12 x12_33) 15 (nI cc)) 14 (nI (rr + 1))) 11 (nI (a_37 + 0))) L (va_up A 13 f13_34) Q) H := hP
                      have hD : va_D A0 (rW h cs (va_up (va_up (va_up (va_up I 12 x12_33) 15 (nI cc)) 14 (nI (rr + 1))) 11 (nI (a_37 + 0))) L (va_up A 13 f13_34) Q) := hD
                      refine lv_goto (tgt := 17) hx hb dX10_read_141 (by decide) ?_
                      exact ih_17 0 (rr + 1) cc (nI cc) (a_37 + 0) x12_33 f13_34 (by omega) (by first | assumption | omega) (by first | assumption | omega) (by first | exact (fun _ => ⟨by omega, by decide⟩) | exact (fun h9 => absurd h9 (by omega)) | exact (fun _ => ⟨by omega, by assumption⟩)) (by first | assumption | omega) (by first | exact (fun h9 => absurd h9 (by omega)) | exact (fun _ => ⟨rfl, by omega, by omega⟩)) (by first | exact (fun h9 => absurd h9 (by omega)) | exact (fun _ => by omega)) (by first | exact (fun _ i j hi => absurd hi (by omega)) | exact (fun h9 => absurd h9 hfl) | exact (fun h9 => absurd h9 (Int32.not_lt.mpr (by assumption))) | exact (fun h9 => rd_b hkp9 (fun i j a b => hb17 hm1.2 i j a b) (hrb9 h9) (by omega) (by omega)) | exact (fun h9 => rd_b hkp9 (fun i j a b => absurd a (by omega)) (hrb9 h9) (by omega) (by omega))) (by first | exact (fun _ => rfl) | exact (fun h9 => absurd h9 (by omega))) (fun h9 => absurd h9 (by omega)) (fun _ => Or.inr ⟨hwl, hsk9, cc, by omega, by first | exact (fun q9 => by omega) | exact (fun q9 => absurd ((tp_c (by decide) (by decide)).mpr q9.1) (by assumption)), fun q9 => hnc9 ⟨q9.1, by have q8 := q9.2; split at q8 <;> split <;> omega⟩, by have q9 := hKM; rw [(show rr * cc + n_36 = (rr + 1) * cc from by rw [Nat.succ_mul]; omega)] at q9; rw [(show n_36 = cc by omega)] at q9; exact q9⟩) _ _ _ hP hD hS (lv_sub hl [2, 0] rfl)
                    · skip
                      refine lv_iconst (v := nI 1) hx hb dX10_read_117 (by decide) ?_
                      refine lv_goto (tgt := 122) hx hb dX10_read_118 (by decide) ?_
                      refine lv_istore_n (lv' := [(1, .int (nI 1)), (2, .int (nI n_36)), (0, .ref (h 0))]) hx hb dX10_read_122 rfl hl (by decide) rfl (fun ls hl => ?_)
                      refine lv_aload_n hx hb dX10_read_123 rfl (lv_at hl 2 rfl) ?_
                      refine lv_dup hx hb dX10_read_124 rfl ?_
                      refine va_get (D := (dC, dI)) (ci := 10) (v := .int (nI a_37)) (C := RX10) (T := TX10) (N := 28) hx hb hts hinX10 hown hK hP 0 rfl rfl 11 (by decide) (hts (.fieldLink RX10 119 "MixedWordsModel" "at" "I") (by decide +kernel)) (fun _ h9 => h9) rfl dX10_read_125 ?_
                      refine lv_iload_n hx hb dX10_read_128 rfl (lv_at hl 0 rfl) ?_
                      refine lv_if_eq (tgt := 136) hx hb dX10_read_129 (by decide) (fun c9 => False.elim (by revert c9; decide +kernel)) (fun _ => ?_)
                      refine lv_iconst (v := nI 1) hx hb dX10_read_132 (by decide) ?_
                      refine lv_goto (tgt := 137) hx hb dX10_read_133 (by decide) ?_
                      refine lv_iadd hx hb dX10_read_137 ?_
                      refine xt_i (y := nI (a_37 + 1)) (nI_add _ _) ?_
                      refine va_put (D := (dC, dI)) (ci := 10) (v := .int (nI (a_37 + 1))) (ty := .int) (C := RX10) (T := TX10) (N := 28) hx hb hts hinX10 tyX10 tyX10_ok nmX10 hown hK hP hD hS 0 rfl rfl 11 (by decide) (hts (.fieldLink RX10 119 "MixedWordsModel" "at" "I") (by decide +kernel)) (fun _ h9 => h9) rfl (by decide +kernel) rfl rfl (Nat.le_of_ble_eq_true rfl) dX10_read_138 (fun H locs hP hD hS => ?_)
                      have hP : va_P (dC, dI) vwCl (rW h cs (va_up (va_up (va_up (va_up I 12 x12_33) 15 (nI cc)) 14 (nI (rr + 1))) 11 (nI (a_37 + 1))) L (va_up A 13 f13_34) Q) H := hP
                      have hD : va_D A0 (rW h cs (va_up (va_up (va_up (va_up I 12 x12_33) 15 (nI cc)) 14 (nI (rr + 1))) 11 (nI (a_37 + 1))) L (va_up A 13 f13_34) Q) := hD
                      refine lv_goto (tgt := 17) hx hb dX10_read_141 (by decide) ?_
                      exact ih_17 1 (rr + 1) cc (nI cc) (a_37 + 1) x12_33 f13_34 (by omega) (by first | assumption | omega) (by first | assumption | omega) (by first | exact (fun _ => ⟨by omega, by decide⟩) | exact (fun h9 => absurd h9 (by omega)) | exact (fun _ => ⟨by omega, by assumption⟩)) (by first | assumption | omega) (by first | exact (fun h9 => absurd h9 (by omega)) | exact (fun _ => ⟨rfl, by omega, by omega⟩)) (by first | exact (fun h9 => absurd h9 (by omega)) | exact (fun _ => by omega)) (by first | exact (fun _ i j hi => absurd hi (by omega)) | exact (fun h9 => absurd h9 hfl) | exact (fun h9 => absurd h9 (Int32.not_lt.mpr (by assumption))) | exact (fun h9 => rd_b hkp9 (fun i j a b => hb17 hm1.2 i j a b) (hrb9 h9) (by omega) (by omega)) | exact (fun h9 => rd_b hkp9 (fun i j a b => absurd a (by omega)) (hrb9 h9) (by omega) (by omega))) (by first | exact (fun _ => rfl) | exact (fun h9 => absurd h9 (by omega))) (fun _ => by have q9 := KM_sem hKM ((tp_c (by decide) (by decide)).mp (by assumption)) (by omega) (by omega); rw [(show rr * cc + n_36 = (rr + 1) * cc from by rw [Nat.succ_mul]; omega)] at q9; rw [(show n_36 = cc by omega)] at q9; exact q9) (fun h9 => absurd h9 (by omega)) _ _ _ hP hD hS (lv_sub hl [2, 0] rfl)
              · skip
                refine lv_aload_n hx hb dX10_read_75 rfl (lv_at hl 1 rfl) ?_
                refine lv_aload_n hx hb dX10_read_76 rfl (lv_at hl 1 rfl) ?_
                refine va_get (D := (dC, dI)) (ci := 10) (v := .int (nI a_37)) (C := RX10) (T := TX10) (N := 28) hx hb hts hinX10 hown hK hP 0 rfl rfl 11 (by decide) (hts (.fieldLink RX10 119 "MixedWordsModel" "at" "I") (by decide +kernel)) (fun _ h9 => h9) rfl dX10_read_77 ?_
                refine xj_v (wc := (rW h cs (va_up (va_up (va_up (va_up I 14 (nI rr)) 12 x12_33) 11 (nI a_37)) 15 (nI cc)) L (va_up A 13 f13_34) Q)) (wr := ([] : va_W)) hP hD hS hA [0, 1, 2, 3, 4, 5, 6, 7, 8, 9, 10, 11, 12, 13, 14, 15, 16] [] rfl rfl (by decide +kernel) (by decide +kernel) (va_runV (As := [.int (nI a_37)]) (rest := []) ⟨hx, hb, hml, hown, hts⟩ (k_X10_fails l dC dI h cs H.size (va_up (va_up (va_up (va_up I 14 (nI rr)) 12 x12_33) 11 (nI a_37)) 15 (nI cc)) L (va_up A 13 f13_34) Q a_37) (cwV 1 hts gX10_read_X10_fails rfl rfl rfl (by decide +kernel) ⟨Nat.le_of_ble_eq_true rfl, Nat.le_of_ble_eq_true rfl⟩) (xpV (wc := (rW h cs (va_up (va_up (va_up (va_up I 14 (nI rr)) 12 x12_33) 11 (nI a_37)) 15 (nI cc)) L (va_up A 13 f13_34) Q)) hP hD hK hN [0, 1, 2, 3, 4, 5, 6, 7, 8, 9, 10, 11, 12, 13, 14, 15, 16] rfl (by decide) 0 (ci := 10) rfl rfl _) rfl rfl hl.1 rfl (lv_room (Nat.le_of_ble_eq_true rfl)) dX10_read_80 ⟨Nat.zero_le _, Nat.zero_le _⟩) (fun u_50 H locs hw hP hD hS => ?_)
                obtain ⟨x12_52, hf_53, rfl⟩ := hw
                have hP : va_P (dC, dI) vwCl (rW h cs (va_up (va_up (va_up (va_up I 14 (nI rr)) 11 (nI a_37)) 15 (nI cc)) 12 x12_52) L (va_up A 13 f13_34) Q) H := hP
                have hD : va_D A0 (rW h cs (va_up (va_up (va_up (va_up I 14 (nI rr)) 11 (nI a_37)) 15 (nI cc)) 12 x12_52) L (va_up A 13 f13_34) Q) := hD
                have hx12 := hf_53
                obtain rfl : x12_52 = nI a_37 := by rw [hx12]; exact if_pos hwl
                have hfl : ¬ nI a_37 < 0 := nI_pos (show a_37 < 2 ^ 31 by omega)
                have hflt := KM_flt hKM (fun q9 => by omega) hnc9 (fun q9 => by omega)
                refine lv_aload_n hx hb dX10_read_83 rfl (lv_at hl 1 rfl) ?_
                refine lv_dup hx hb dX10_read_84 rfl ?_
                refine va_get (D := (dC, dI)) (ci := 10) (v := .int (nI rr)) (C := RX10) (T := TX10) (N := 28) hx hb hts hinX10 hown hK hP 0 rfl rfl 14 (by decide) (hts (.fieldLink RX10 137 "MixedWordsModel" "readRows" "I") (by decide +kernel)) (fun _ h9 => h9) rfl dX10_read_85 ?_
                refine lv_iconst (v := nI 1) hx hb dX10_read_88 (by decide) ?_
                refine lv_iadd hx hb dX10_read_89 ?_
                refine xt_i (y := nI (rr + 1)) (nI_add _ _) ?_
                refine va_put (D := (dC, dI)) (ci := 10) (v := .int (nI (rr + 1))) (ty := .int) (C := RX10) (T := TX10) (N := 28) hx hb hts hinX10 tyX10 tyX10_ok nmX10 hown hK hP hD hS 0 rfl rfl 14 (by decide) (hts (.fieldLink RX10 137 "MixedWordsModel" "readRows" "I") (by decide +kernel)) (fun _ h9 => h9) rfl (by decide +kernel) rfl rfl (Nat.le_of_ble_eq_true rfl) dX10_read_90 (fun H locs hP hD hS => ?_)
                have hP : va_P (dC, dI) vwCl (rW h cs (va_up (va_up (va_up (va_up I 11 (nI a_37)) 15 (nI cc)) 12 (nI a_37)) 14 (nI (rr + 1))) L (va_up A 13 f13_34) Q) H := hP
                have hD : va_D A0 (rW h cs (va_up (va_up (va_up (va_up I 11 (nI a_37)) 15 (nI cc)) 12 (nI a_37)) 14 (nI (rr + 1))) L (va_up A 13 f13_34) Q) := hD
                refine lv_aload_n hx hb dX10_read_93 rfl (lv_at hl 1 rfl) ?_
                refine va_get (D := (dC, dI)) (ci := 10) (v := .int (nI a_37)) (C := RX10) (T := TX10) (N := 28) hx hb hts hinX10 hown hK hP 0 rfl rfl 12 (by decide) (hts (.fieldLink RX10 122 "MixedWordsModel" "wrong" "I") (by decide +kernel)) (fun _ h9 => h9) rfl dX10_read_94 ?_
                refine lv_if_ge (tgt := 121) hx hb dX10_read_97 (by decide) (fun c_97_53 => ?_) (fun c_97_53 => ?_)
                · skip
                  refine lv_iconst (v := nI 0) hx hb dX10_read_121 (by decide) ?_
                  refine lv_istore_n (lv' := [(1, .int (nI 0)), (2, .int (nI n_36)), (0, .ref (h 0))]) hx hb dX10_read_122 rfl hl (by decide) rfl (fun ls hl => ?_)
                  refine lv_aload_n hx hb dX10_read_123 rfl (lv_at hl 2 rfl) ?_
                  refine lv_dup hx hb dX10_read_124 rfl ?_
                  refine va_get (D := (dC, dI)) (ci := 10) (v := .int (nI a_37)) (C := RX10) (T := TX10) (N := 28) hx hb hts hinX10 hown hK hP 0 rfl rfl 11 (by decide) (hts (.fieldLink RX10 119 "MixedWordsModel" "at" "I") (by decide +kernel)) (fun _ h9 => h9) rfl dX10_read_125 ?_
                  refine lv_iload_n hx hb dX10_read_128 rfl (lv_at hl 0 rfl) ?_
                  refine lv_if_eq (tgt := 136) hx hb dX10_read_129 (by decide) (fun _ => ?_) (fun c9 => False.elim (by revert c9; decide +kernel))
                  refine lv_iconst (v := nI 0) hx hb dX10_read_136 (by decide) ?_
                  refine lv_iadd hx hb dX10_read_137 ?_
                  refine xt_i (y := nI (a_37 + 0)) (nI_add _ _) ?_
                  refine va_put (D := (dC, dI)) (ci := 10) (v := .int (nI (a_37 + 0))) (ty := .int) (C := RX10) (T := TX10) (N := 28) hx hb hts hinX10 tyX10 tyX10_ok nmX10 hown hK hP hD hS 0 rfl rfl 11 (by decide) (hts (.fieldLink RX10 119 "MixedWordsModel" "at" "I") (by decide +kernel)) (fun _ h9 => h9) rfl (by decide +kernel) rfl rfl (Nat.le_of_ble_eq_true rfl) dX10_read_138 (fun H locs hP hD hS => ?_)
                  have hP : va_P (dC, dI) vwCl (rW h cs (va_up (va_up (va_up (va_up I 15 (nI cc)) 12 (nI a_37)) 14 (nI (rr + 1))) 11 (nI (a_37 + 0))) L (va_up A 13 f13_34) Q) H := hP
                  have hD : va_D A0 (rW h cs (va_up (va_up (va_up (va_up I 15 (nI cc)) 12 (nI a_37)) 14 (nI (rr + 1))) 11 (nI (a_37 + 0))) L (va_up A 13 f13_34) Q) := hD
                  refine lv_goto (tgt := 17) hx hb dX10_read_141 (by decide) ?_
                  exact ih_17 0 (rr + 1) cc (nI cc) (a_37 + 0) (nI a_37) f13_34 (by omega) (by first | assumption | omega) (by first | assumption | omega) (by first | exact (fun _ => ⟨by omega, by decide⟩) | exact (fun h9 => absurd h9 (by omega)) | exact (fun _ => ⟨by omega, by assumption⟩)) (by first | assumption | omega) (by first | exact (fun h9 => absurd h9 (by omega)) | exact (fun _ => ⟨rfl, by omega, by omega⟩)) (by first | exact (fun h9 => absurd h9 (by omega)) | exact (fun _ => by omega)) (by first | exact (fun _ i j hi => absurd hi (by omega)) | exact (fun h9 => absurd h9 hfl) | exact (fun h9 => absurd h9 (Int32.not_lt.mpr (by assumption))) | exact (fun h9 => rd_b hkp9 (fun i j a b => hb17 hm1.2 i j a b) (hrb9 h9) (by omega) (by omega)) | exact (fun h9 => rd_b hkp9 (fun i j a b => absurd a (by omega)) (hrb9 h9) (by omega) (by omega))) (by first | exact (fun _ => rfl) | exact (fun h9 => absurd h9 (by omega))) (fun h9 => absurd h9 (by omega)) (fun _ => Or.inl ⟨a_37, _, by omega, rfl, hflt⟩) _ _ _ hP hD hS (lv_sub hl [2, 0] rfl)
                · skip
                  exact absurd (Int32.not_le.mp c_97_53) hfl
          · skip
            omega
        · skip
          refine lv_iconst (v := nI 4) hx hb dX10_read_29 (by decide) ?_
          refine lv_goto (tgt := 37) hx hb dX10_read_30 (by decide) ?_
          have hcz := hz17 (by omega)
          have hcc4 : cc ≤ 4 := by omega
          have hmul := rd_mul hm1.1 hcc4
          refine xj_i (wc := (rW h cs (va_up (va_up (va_up (va_up I 11 (nI a1)) 12 w1) 14 (nI rr)) 15 c15) L (va_up A 13 g) Q)) (wr := ([] : va_W)) hP hD hS hA [0, 1, 2, 3, 4, 5, 6, 7, 8, 9, 10, 11, 12, 13, 14, 15, 16] [] rfl rfl (by decide +kernel) (by decide +kernel) (va_runV (As := [.int (nI 4)]) (rest := []) ⟨hx, hb, hml, hown, hts⟩ (k_X10_row l dC dI h cs H.size (va_up (va_up (va_up (va_up I 11 (nI a1)) 12 w1) 14 (nI rr)) 15 c15) L (va_up A 13 g) Q 4 T a1 rr (by first | assumption | omega) (by first | assumption | omega) hT (by first | assumption | omega | exact hT9) rfl (by first | assumption | omega) rfl (by first | assumption | omega)) (cwV 1 hts gX10_read_X10_row rfl rfl rfl (by decide +kernel) ⟨Nat.le_of_ble_eq_true rfl, Nat.le_of_ble_eq_true rfl⟩) (xpV (wc := (rW h cs (va_up (va_up (va_up (va_up I 11 (nI a1)) 12 w1) 14 (nI rr)) 15 c15) L (va_up A 13 g) Q)) hP hD hK hN [0, 1, 2, 3, 4, 5, 6, 7, 8, 9, 10, 11, 12, 13, 14, 15, 16] rfl (by decide) 0 (ci := 10) rfl rfl _) rfl rfl hl.1 rfl (lv_room (Nat.le_of_ble_eq_true rfl)) dX10_read_37 ⟨Nat.zero_le _, Nat.zero_le _⟩) (fun r_56 u_55 H locs hw hP hD hS => ?_)
          obtain ⟨x11_57, x12_58, f13_59, hf_60, rfl⟩ := hw
          have hP : va_P (dC, dI) vwCl (rW h cs (va_up (va_up (va_up (va_up I 14 (nI rr)) 15 c15) 11 x11_57) 12 x12_58) L (va_up A 13 f13_59) Q) H := hP
          have hD : va_D A0 (rW h cs (va_up (va_up (va_up (va_up I 14 (nI rr)) 15 c15) 11 x11_57) 12 x12_58) L (va_up A 13 f13_59) Q) := hD
          obtain ⟨n_61, a_62, rfl, rfl, hn1, hn2, ha2, hrow9, hkp9⟩ := hf_60
          have hrb9 := rowS_ok hT9 _ _ _ _ _ hrow9
          have hK9 : Hid9 _ := (rowS_K hT9 hm1.2 (by rw [if_pos (by omega)]) (by omega) (hk17 (by omega)) _ _ _ _ false hn2 hrow9).2 rfl
          clear hrow9
          refine lv_istore_n (lv' := [(2, .int (nI n_61)), (0, .ref (h 0)), (1, .int (nI m1))]) hx hb dX10_read_40 rfl hl (by decide) rfl (fun ls hl => ?_)
          refine lv_aload_n hx hb dX10_read_41 rfl (lv_at hl 1 rfl) ?_
          refine lv_aload_n hx hb dX10_read_42 rfl (lv_at hl 1 rfl) ?_
          refine va_get (D := (dC, dI)) (ci := 10) (v := .int (nI rr)) (C := RX10) (T := TX10) (N := 28) hx hb hts hinX10 hown hK hP 0 rfl rfl 14 (by decide) (hts (.fieldLink RX10 137 "MixedWordsModel" "readRows" "I") (by decide +kernel)) (fun _ h9 => h9) rfl dX10_read_43 ?_
          refine xz_ne (tgt := 53) hx hb dX10_read_46 (by decide) (by omega) (fun c_46_62 => ?_) (fun c_46_62 => ?_)
          · skip
            omega
          · skip
            refine lv_iload_n hx hb dX10_read_49 rfl (lv_at hl 0 rfl) ?_
            refine lv_goto (tgt := 57) hx hb dX10_read_50 (by decide) ?_
            refine va_put (D := (dC, dI)) (ci := 10) (v := .int (nI n_61)) (ty := .int) (C := RX10) (T := TX10) (N := 28) hx hb hts hinX10 tyX10 tyX10_ok nmX10 hown hK hP hD hS 0 rfl rfl 15 (by decide) (hts (.fieldLink RX10 143 "MixedWordsModel" "readColumns" "I") (by decide +kernel)) (fun _ h9 => h9) rfl (by decide +kernel) rfl rfl (Nat.le_of_ble_eq_true rfl) dX10_read_57 (fun H locs hP hD hS => ?_)
            have hP : va_P (dC, dI) vwCl (rW h cs (va_up (va_up (va_up (va_up I 14 (nI rr)) 12 x12_58) 11 (nI a_62)) 15 (nI n_61)) L (va_up A 13 f13_59) Q) H := hP
            have hD : va_D A0 (rW h cs (va_up (va_up (va_up (va_up I 14 (nI rr)) 12 x12_58) 11 (nI a_62)) 15 (nI n_61)) L (va_up A 13 f13_59) Q) := hD
            refine lv_aload_n hx hb dX10_read_60 rfl (lv_at hl 1 rfl) ?_
            refine va_get (D := (dC, dI)) (ci := 10) (v := .int x12_58) (C := RX10) (T := TX10) (N := 28) hx hb hts hinX10 hown hK hP 0 rfl rfl 12 (by decide) (hts (.fieldLink RX10 122 "MixedWordsModel" "wrong" "I") (by decide +kernel)) (fun _ h9 => h9) rfl dX10_read_61 ?_
            refine lv_if_ge (tgt := 83) hx hb dX10_read_64 (by decide) (fun c_64_63 => ?_) (fun c_64_63 => ?_)
            · skip
              have hwp := c_64_63
              refine lv_aload_n hx hb dX10_read_83 rfl (lv_at hl 1 rfl) ?_
              refine lv_dup hx hb dX10_read_84 rfl ?_
              refine va_get (D := (dC, dI)) (ci := 10) (v := .int (nI rr)) (C := RX10) (T := TX10) (N := 28) hx hb hts hinX10 hown hK hP 0 rfl rfl 14 (by decide) (hts (.fieldLink RX10 137 "MixedWordsModel" "readRows" "I") (by decide +kernel)) (fun _ h9 => h9) rfl dX10_read_85 ?_
              refine lv_iconst (v := nI 1) hx hb dX10_read_88 (by decide) ?_
              refine lv_iadd hx hb dX10_read_89 ?_
              refine xt_i (y := nI (rr + 1)) (nI_add _ _) ?_
              refine va_put (D := (dC, dI)) (ci := 10) (v := .int (nI (rr + 1))) (ty := .int) (C := RX10) (T := TX10) (N := 28) hx hb hts hinX10 tyX10 tyX10_ok nmX10 hown hK hP hD hS 0 rfl rfl 14 (by decide) (hts (.fieldLink RX10 137 "MixedWordsModel" "readRows" "I") (by decide +kernel)) (fun _ h9 => h9) rfl (by decide +kernel) rfl rfl (Nat.le_of_ble_eq_true rfl) dX10_read_90 (fun H locs hP hD hS => ?_)
              have hP : va_P (dC, dI) vwCl (rW h cs (va_up (va_up (va_up (va_up I 12 x12_58) 11 (nI a_62)) 15 (nI n_61)) 14 (nI (rr + 1))) L (va_up A 13 f13_59) Q) H := hP
              have hD : va_D A0 (rW h cs (va_up (va_up (va_up (va_up I 12 x12_58) 11 (nI a_62)) 15 (nI n_61)) 14 (nI (rr + 1))) L (va_up A 13 f13_59) Q) := hD
              refine lv_aload_n hx hb dX10_read_93 rfl (lv_at hl 1 rfl) ?_
              refine va_get (D := (dC, dI)) (ci := 10) (v := .int x12_58) (C := RX10) (T := TX10) (N := 28) hx hb hts hinX10 hown hK hP 0 rfl rfl 12 (by decide) (hts (.fieldLink RX10 122 "MixedWordsModel" "wrong" "I") (by decide +kernel)) (fun _ h9 => h9) rfl dX10_read_94 ?_
              refine lv_if_ge (tgt := 121) hx hb dX10_read_97 (by decide) (fun c_97_64 => ?_) (fun c_97_64 => ?_)
              · skip
                refine lv_iconst (v := nI 0) hx hb dX10_read_121 (by decide) ?_
                refine lv_istore_n (lv' := [(1, .int (nI 0)), (2, .int (nI n_61)), (0, .ref (h 0))]) hx hb dX10_read_122 rfl hl (by decide) rfl (fun ls hl => ?_)
                refine lv_aload_n hx hb dX10_read_123 rfl (lv_at hl 2 rfl) ?_
                refine lv_dup hx hb dX10_read_124 rfl ?_
                refine va_get (D := (dC, dI)) (ci := 10) (v := .int (nI a_62)) (C := RX10) (T := TX10) (N := 28) hx hb hts hinX10 hown hK hP 0 rfl rfl 11 (by decide) (hts (.fieldLink RX10 119 "MixedWordsModel" "at" "I") (by decide +kernel)) (fun _ h9 => h9) rfl dX10_read_125 ?_
                refine lv_iload_n hx hb dX10_read_128 rfl (lv_at hl 0 rfl) ?_
                refine lv_if_eq (tgt := 136) hx hb dX10_read_129 (by decide) (fun _ => ?_) (fun c9 => False.elim (by revert c9; decide +kernel))
                refine lv_iconst (v := nI 0) hx hb dX10_read_136 (by decide) ?_
                refine lv_iadd hx hb dX10_read_137 ?_
                refine xt_i (y := nI (a_62 + 0)) (nI_add _ _) ?_
                refine va_put (D := (dC, dI)) (ci := 10) (v := .int (nI (a_62 + 0))) (ty := .int) (C := RX10) (T := TX10) (N := 28) hx hb hts hinX10 tyX10 tyX10_ok nmX10 hown hK hP hD hS 0 rfl rfl 11 (by decide) (hts (.fieldLink RX10 119 "MixedWordsModel" "at" "I") (by decide +kernel)) (fun _ h9 => h9) rfl (by decide +kernel) rfl rfl (Nat.le_of_ble_eq_true rfl) dX10_read_138 (fun H locs hP hD hS => ?_)
                have hP : va_P (dC, dI) vwCl (rW h cs (va_up (va_up (va_up (va_up I 12 x12_58) 15 (nI n_61)) 14 (nI (rr + 1))) 11 (nI (a_62 + 0))) L (va_up A 13 f13_59) Q) H := hP
                have hD : va_D A0 (rW h cs (va_up (va_up (va_up (va_up I 12 x12_58) 15 (nI n_61)) 14 (nI (rr + 1))) 11 (nI (a_62 + 0))) L (va_up A 13 f13_59) Q) := hD
                refine lv_goto (tgt := 17) hx hb dX10_read_141 (by decide) ?_
                exact ih_17 0 (rr + 1) n_61 (nI n_61) (a_62 + 0) x12_58 f13_59 (by omega) (by first | assumption | omega) (by first | assumption | omega) (by first | exact (fun _ => ⟨by omega, by decide⟩) | exact (fun h9 => absurd h9 (by omega)) | exact (fun _ => ⟨by omega, by assumption⟩)) (by first | assumption | omega) (by first | exact (fun h9 => absurd h9 (by omega)) | exact (fun _ => ⟨rfl, by omega, by omega⟩)) (by first | exact (fun h9 => absurd h9 (by omega)) | exact (fun _ => by omega)) (by first | exact (fun _ i j hi => absurd hi (by omega)) | exact (fun h9 => absurd h9 hfl) | exact (fun h9 => absurd h9 (Int32.not_lt.mpr (by assumption))) | exact (fun h9 => rd_b hkp9 (fun i j a b => hb17 hm1.2 i j a b) (hrb9 h9) (by omega) (by omega)) | exact (fun h9 => rd_b hkp9 (fun i j a b => absurd a (by omega)) (hrb9 h9) (by omega) (by omega))) (by first | exact (fun _ => rfl) | exact (fun h9 => absurd h9 (by omega))) (fun h9 => absurd h9 (by omega)) (fun _ => Or.inl (by rcases hK9 with ⟨-, q9, hq9, hw9, hp9⟩ | ⟨hw9, -⟩; (· exact ⟨q9, _, hq9, hw9, hp9⟩); (· exact absurd hw9 (Int32.not_lt.mpr hwp)))) _ _ _ hP hD hS (lv_sub hl [2, 0] rfl)
              · skip
                exact absurd hwp c_97_64
            · skip
              have hwl := Int32.not_le.mp c_64_63
              rcases hK9 with ⟨hw9, -⟩ | ⟨-, -, hsk9, hnc9, hKM0⟩
              · exact absurd hw9 c_64_63
              have hKM := KM_q hKM0 (gV_flat hkp9 hcc4)
              clear hKM0
              have hnc9 : ¬ (isC (A 9) T a_62 44 ∧ n_61 < (if rr = 0 then 4 else cc)) := fun q9 => hnc9 ⟨q9.1, by have q8 := q9.2; split at q8 <;> omega⟩
              refine lv_iload_n hx hb dX10_read_67 rfl (lv_at hl 0 rfl) ?_
              refine lv_aload_n hx hb dX10_read_68 rfl (lv_at hl 1 rfl) ?_
              refine va_get (D := (dC, dI)) (ci := 10) (v := .int (nI n_61)) (C := RX10) (T := TX10) (N := 28) hx hb hts hinX10 hown hK hP 0 rfl rfl 15 (by decide) (hts (.fieldLink RX10 143 "MixedWordsModel" "readColumns" "I") (by decide +kernel)) (fun _ h9 => h9) rfl dX10_read_69 ?_
              refine xn_ge (tgt := 83) hx hb dX10_read_72 (by decide) (by omega) (by omega) (fun c_72_65 => ?_) (fun c_72_65 => ?_)
              · skip
                refine lv_aload_n hx hb dX10_read_83 rfl (lv_at hl 1 rfl) ?_
                refine lv_dup hx hb dX10_read_84 rfl ?_
                refine va_get (D := (dC, dI)) (ci := 10) (v := .int (nI rr)) (C := RX10) (T := TX10) (N := 28) hx hb hts hinX10 hown hK hP 0 rfl rfl 14 (by decide) (hts (.fieldLink RX10 137 "MixedWordsModel" "readRows" "I") (by decide +kernel)) (fun _ h9 => h9) rfl dX10_read_85 ?_
                refine lv_iconst (v := nI 1) hx hb dX10_read_88 (by decide) ?_
                refine lv_iadd hx hb dX10_read_89 ?_
                refine xt_i (y := nI (rr + 1)) (nI_add _ _) ?_
                refine va_put (D := (dC, dI)) (ci := 10) (v := .int (nI (rr + 1))) (ty := .int) (C := RX10) (T := TX10) (N := 28) hx hb hts hinX10 tyX10 tyX10_ok nmX10 hown hK hP hD hS 0 rfl rfl 14 (by decide) (hts (.fieldLink RX10 137 "MixedWordsModel" "readRows" "I") (by decide +kernel)) (fun _ h9 => h9) rfl (by decide +kernel) rfl rfl (Nat.le_of_ble_eq_true rfl) dX10_read_90 (fun H locs hP hD hS => ?_)
                have hP : va_P (dC, dI) vwCl (rW h cs (va_up (va_up (va_up (va_up I 12 x12_58) 11 (nI a_62)) 15 (nI n_61)) 14 (nI (rr + 1))) L (va_up A 13 f13_59) Q) H := hP
                have hD : va_D A0 (rW h cs (va_up (va_up (va_up (va_up I 12 x12_58) 11 (nI a_62)) 15 (nI n_61)) 14 (nI (rr + 1))) L (va_up A 13 f13_59) Q) := hD
                refine lv_aload_n hx hb dX10_read_93 rfl (lv_at hl 1 rfl) ?_
                refine va_get (D := (dC, dI)) (ci := 10) (v := .int x12_58) (C := RX10) (T := TX10) (N := 28) hx hb hts hinX10 hown hK hP 0 rfl rfl 12 (by decide) (hts (.fieldLink RX10 122 "MixedWordsModel" "wrong" "I") (by decide +kernel)) (fun _ h9 => h9) rfl dX10_read_94 ?_
                refine lv_if_ge (tgt := 121) hx hb dX10_read_97 (by decide) (fun c_97_66 => ?_) (fun c_97_66 => ?_)
                · skip
                  exact absurd c_97_66 (Int32.not_le.mpr hwl)
                · skip
                  refine lv_aload_n hx hb dX10_read_100 rfl (lv_at hl 1 rfl) ?_
                  refine xj_i (wc := (rW h cs (va_up (va_up (va_up (va_up I 12 x12_58) 11 (nI a_62)) 15 (nI n_61)) 14 (nI (rr + 1))) L (va_up A 13 f13_59) Q)) (wr := ([] : va_W)) hP hD hS hA [0, 1, 2, 3, 4, 5, 6, 7, 8, 9, 10, 11, 12, 13, 14, 15, 16] [] rfl rfl (by decide +kernel) (by decide +kernel) (va_runV (As := []) (rest := []) ⟨hx, hb, hml, hown, hts⟩ (k_X10_next l dC dI h cs H.size (va_up (va_up (va_up (va_up I 12 x12_58) 11 (nI a_62)) 15 (nI n_61)) 14 (nI (rr + 1))) L (va_up A 13 f13_59) Q T a_62 hT (by first | assumption | omega | exact hT9) rfl (by first | assumption | omega)) (cwV 0 hts gX10_read_X10_next rfl rfl rfl (by decide +kernel) ⟨Nat.le_of_ble_eq_true rfl, Nat.le_of_ble_eq_true rfl⟩) (xpV (wc := (rW h cs (va_up (va_up (va_up (va_up I 12 x12_58) 11 (nI a_62)) 15 (nI n_61)) 14 (nI (rr + 1))) L (va_up A 13 f13_59) Q)) hP hD hK hN [0, 1, 2, 3, 4, 5, 6, 7, 8, 9, 10, 11, 12, 13, 14, 15, 16] rfl (by decide) 0 (ci := 10) rfl rfl _) rfl rfl hl.1 rfl (lv_room (Nat.le_of_ble_eq_true rfl)) dX10_read_101 ⟨Nat.zero_le _, Nat.zero_le _⟩) (fun r_69 u_68 H locs hw hP hD hS => ?_)
                  obtain ⟨x11_70, hf_71, rfl⟩ := hw
                  have hP : va_P (dC, dI) vwCl (rW h cs (va_up (va_up (va_up (va_up I 12 x12_58) 15 (nI n_61)) 14 (nI (rr + 1))) 11 x11_70) L (va_up A 13 f13_59) Q) H := hP
                  have hD : va_D A0 (rW h cs (va_up (va_up (va_up (va_up I 12 x12_58) 15 (nI n_61)) 14 (nI (rr + 1))) 11 x11_70) L (va_up A 13 f13_59) Q) := hD
                  obtain ⟨j_72, hskj, rfl, rfl⟩ := hf_71
                  obtain rfl := sk_u hsk9 hskj
                  refine lv_bipush (v := nI 59) hx hb dX10_read_104 (by decide) ?_
                  refine lv_icmp_ne (tgt := 121) hx hb dX10_read_106 (by decide) (fun c_106_72 => ?_) (fun c_106_72 => ?_)
                  · skip
                    refine lv_iconst (v := nI 0) hx hb dX10_read_121 (by decide) ?_
                    refine lv_istore_n (lv' := [(1, .int (nI 0)), (2, .int (nI n_61)), (0, .ref (h 0))]) hx hb dX10_read_122 rfl hl (by decide) rfl (fun ls hl => ?_)
                    refine lv_aload_n hx hb dX10_read_123 rfl (lv_at hl 2 rfl) ?_
                    refine lv_dup hx hb dX10_read_124 rfl ?_
                    refine va_get (D := (dC, dI)) (ci := 10) (v := .int (nI a_62)) (C := RX10) (T := TX10) (N := 28) hx hb hts hinX10 hown hK hP 0 rfl rfl 11 (by decide) (hts (.fieldLink RX10 119 "MixedWordsModel" "at" "I") (by decide +kernel)) (fun _ h9 => h9) rfl dX10_read_125 ?_
                    refine lv_iload_n hx hb dX10_read_128 rfl (lv_at hl 0 rfl) ?_
                    refine lv_if_eq (tgt := 136) hx hb dX10_read_129 (by decide) (fun _ => ?_) (fun c9 => False.elim (by revert c9; decide +kernel))
                    refine lv_iconst (v := nI 0) hx hb dX10_read_136 (by decide) ?_
                    refine lv_iadd hx hb dX10_read_137 ?_
                    refine xt_i (y := nI (a_62 + 0)) (nI_add _ _) ?_
                    refine va_put (D := (dC, dI)) (ci := 10) (v := .int (nI (a_62 + 0))) (ty := .int) (C := RX10) (T := TX10) (N := 28) hx hb hts hinX10 tyX10 tyX10_ok nmX10 hown hK hP hD hS 0 rfl rfl 11 (by decide) (hts (.fieldLink RX10 119 "MixedWordsModel" "at" "I") (by decide +kernel)) (fun _ h9 => h9) rfl (by decide +kernel) rfl rfl (Nat.le_of_ble_eq_true rfl) dX10_read_138 (fun H locs hP hD hS => ?_)
                    have hP : va_P (dC, dI) vwCl (rW h cs (va_up (va_up (va_up (va_up I 12 x12_58) 15 (nI n_61)) 14 (nI (rr + 1))) 11 (nI (a_62 + 0))) L (va_up A 13 f13_59) Q) H := hP
                    have hD : va_D A0 (rW h cs (va_up (va_up (va_up (va_up I 12 x12_58) 15 (nI n_61)) 14 (nI (rr + 1))) 11 (nI (a_62 + 0))) L (va_up A 13 f13_59) Q) := hD
                    refine lv_goto (tgt := 17) hx hb dX10_read_141 (by decide) ?_
                    exact ih_17 0 (rr + 1) n_61 (nI n_61) (a_62 + 0) x12_58 f13_59 (by omega) (by first | assumption | omega) (by first | assumption | omega) (by first | exact (fun _ => ⟨by omega, by decide⟩) | exact (fun h9 => absurd h9 (by omega)) | exact (fun _ => ⟨by omega, by assumption⟩)) (by first | assumption | omega) (by first | exact (fun h9 => absurd h9 (by omega)) | exact (fun _ => ⟨rfl, by omega, by omega⟩)) (by first | exact (fun h9 => absurd h9 (by omega)) | exact (fun _ => by omega)) (by first | exact (fun _ i j hi => absurd hi (by omega)) | exact (fun h9 => absurd h9 hfl) | exact (fun h9 => absurd h9 (Int32.not_lt.mpr (by assumption))) | exact (fun h9 => rd_b hkp9 (fun i j a b => hb17 hm1.2 i j a b) (hrb9 h9) (by omega) (by omega)) | exact (fun h9 => rd_b hkp9 (fun i j a b => absurd a (by omega)) (hrb9 h9) (by omega) (by omega))) (by first | exact (fun _ => rfl) | exact (fun h9 => absurd h9 (by omega))) (fun h9 => absurd h9 (by omega)) (fun _ => Or.inr ⟨hwl, hsk9, cc, by omega, by first | exact (fun q9 => by omega) | exact (fun q9 => absurd ((tp_c (by decide) (by decide)).mpr q9.1) (by assumption)), fun q9 => hnc9 ⟨q9.1, by have q8 := q9.2; split at q8 <;> split <;> omega⟩, by have q9 := hKM; rw [(show rr * cc + n_61 = (rr + 1) * n_61 from by rw [show rr = 0 by omega, Nat.zero_mul]; omega)] at q9; exact q9⟩) _ _ _ hP hD hS (lv_sub hl [2, 0] rfl)
                  · skip
                    have hcT := tp_ltc (by decide) (by decide) c_106_72
                    refine lv_aload_n hx hb dX10_read_109 rfl (lv_at hl 1 rfl) ?_
                    refine va_get (D := (dC, dI)) (ci := 10) (v := .int (nI (rr + 1))) (C := RX10) (T := TX10) (N := 28) hx hb hts hinX10 hown hK hP 0 rfl rfl 14 (by decide) (hts (.fieldLink RX10 137 "MixedWordsModel" "readRows" "I") (by decide +kernel)) (fun _ h9 => h9) rfl dX10_read_110 ?_
                    refine lv_iconst (v := nI 5) hx hb dX10_read_113 (by decide) ?_
                    refine xn_ge (tgt := 121) hx hb dX10_read_114 (by decide) (by omega) (by omega) (fun c_114_73 => ?_) (fun c_114_73 => ?_)
                    · skip
                      refine lv_iconst (v := nI 0) hx hb dX10_read_121 (by decide) ?_
                      refine lv_istore_n (lv' := [(1, .int (nI 0)), (2, .int (nI n_61)), (0, .ref (h 0))]) hx hb dX10_read_122 rfl hl (by decide) rfl (fun ls hl => ?_)
                      refine lv_aload_n hx hb dX10_read_123 rfl (lv_at hl 2 rfl) ?_
                      refine lv_dup hx hb dX10_read_124 rfl ?_
                      refine va_get (D := (dC, dI)) (ci := 10) (v := .int (nI a_62)) (C := RX10) (T := TX10) (N := 28) hx hb hts hinX10 hown hK hP 0 rfl rfl 11 (by decide) (hts (.fieldLink RX10 119 "MixedWordsModel" "at" "I") (by decide +kernel)) (fun _ h9 => h9) rfl dX10_read_125 ?_
                      refine lv_iload_n hx hb dX10_read_128 rfl (lv_at hl 0 rfl) ?_
                      refine lv_if_eq (tgt := 136) hx hb dX10_read_129 (by decide) (fun _ => ?_) (fun c9 => False.elim (by revert c9; decide +kernel))
                      refine lv_iconst (v := nI 0) hx hb dX10_read_136 (by decide) ?_
                      refine lv_iadd hx hb dX10_read_137 ?_
                      refine xt_i (y := nI (a_62 + 0)) (nI_add _ _) ?_
                      refine va_put (D := (dC, dI)) (ci := 10) (v := .int (nI (a_62 + 0))) (ty := .int) (C := RX10) (T := TX10) (N := 28) hx hb hts hinX10 tyX10 tyX10_ok nmX10 hown hK hP hD hS 0 rfl rfl 11 (by decide) (hts (.fieldLink RX10 119 "MixedWordsModel" "at" "I") (by decide +kernel)) (fun _ h9 => h9) rfl (by decide +kernel) rfl rfl (Nat.le_of_ble_eq_true rfl) dX10_read_138 (fun H locs hP hD hS => ?_)
                      have hP : va_P (dC, dI) vwCl (rW h cs (va_up (va_up (va_up (va_up I 12 x12_58) 15 (nI n_61)) 14 (nI (rr + 1))) 11 (nI (a_62 + 0))) L (va_up A 13 f13_59) Q) H := hP
                      have hD : va_D A0 (rW h cs (va_up (va_up (va_up (va_up I 12 x12_58) 15 (nI n_61)) 14 (nI (rr + 1))) 11 (nI (a_62 + 0))) L (va_up A 13 f13_59) Q) := hD
                      refine lv_goto (tgt := 17) hx hb dX10_read_141 (by decide) ?_
                      exact ih_17 0 (rr + 1) n_61 (nI n_61) (a_62 + 0) x12_58 f13_59 (by omega) (by first | assumption | omega) (by first | assumption | omega) (by first | exact (fun _ => ⟨by omega, by decide⟩) | exact (fun h9 => absurd h9 (by omega)) | exact (fun _ => ⟨by omega, by assumption⟩)) (by first | assumption | omega) (by first | exact (fun h9 => absurd h9 (by omega)) | exact (fun _ => ⟨rfl, by omega, by omega⟩)) (by first | exact (fun h9 => absurd h9 (by omega)) | exact (fun _ => by omega)) (by first | exact (fun _ i j hi => absurd hi (by omega)) | exact (fun h9 => absurd h9 hfl) | exact (fun h9 => absurd h9 (Int32.not_lt.mpr (by assumption))) | exact (fun h9 => rd_b hkp9 (fun i j a b => hb17 hm1.2 i j a b) (hrb9 h9) (by omega) (by omega)) | exact (fun h9 => rd_b hkp9 (fun i j a b => absurd a (by omega)) (hrb9 h9) (by omega) (by omega))) (by first | exact (fun _ => rfl) | exact (fun h9 => absurd h9 (by omega))) (fun h9 => absurd h9 (by omega)) (fun _ => Or.inr ⟨hwl, hsk9, cc, by omega, by first | exact (fun q9 => by omega) | exact (fun q9 => absurd ((tp_c (by decide) (by decide)).mpr q9.1) (by assumption)), fun q9 => hnc9 ⟨q9.1, by have q8 := q9.2; split at q8 <;> split <;> omega⟩, by have q9 := hKM; rw [(show rr * cc + n_61 = (rr + 1) * n_61 from by rw [show rr = 0 by omega, Nat.zero_mul]; omega)] at q9; exact q9⟩) _ _ _ hP hD hS (lv_sub hl [2, 0] rfl)
                    · skip
                      refine lv_iconst (v := nI 1) hx hb dX10_read_117 (by decide) ?_
                      refine lv_goto (tgt := 122) hx hb dX10_read_118 (by decide) ?_
                      refine lv_istore_n (lv' := [(1, .int (nI 1)), (2, .int (nI n_61)), (0, .ref (h 0))]) hx hb dX10_read_122 rfl hl (by decide) rfl (fun ls hl => ?_)
                      refine lv_aload_n hx hb dX10_read_123 rfl (lv_at hl 2 rfl) ?_
                      refine lv_dup hx hb dX10_read_124 rfl ?_
                      refine va_get (D := (dC, dI)) (ci := 10) (v := .int (nI a_62)) (C := RX10) (T := TX10) (N := 28) hx hb hts hinX10 hown hK hP 0 rfl rfl 11 (by decide) (hts (.fieldLink RX10 119 "MixedWordsModel" "at" "I") (by decide +kernel)) (fun _ h9 => h9) rfl dX10_read_125 ?_
                      refine lv_iload_n hx hb dX10_read_128 rfl (lv_at hl 0 rfl) ?_
                      refine lv_if_eq (tgt := 136) hx hb dX10_read_129 (by decide) (fun c9 => False.elim (by revert c9; decide +kernel)) (fun _ => ?_)
                      refine lv_iconst (v := nI 1) hx hb dX10_read_132 (by decide) ?_
                      refine lv_goto (tgt := 137) hx hb dX10_read_133 (by decide) ?_
                      refine lv_iadd hx hb dX10_read_137 ?_
                      refine xt_i (y := nI (a_62 + 1)) (nI_add _ _) ?_
                      refine va_put (D := (dC, dI)) (ci := 10) (v := .int (nI (a_62 + 1))) (ty := .int) (C := RX10) (T := TX10) (N := 28) hx hb hts hinX10 tyX10 tyX10_ok nmX10 hown hK hP hD hS 0 rfl rfl 11 (by decide) (hts (.fieldLink RX10 119 "MixedWordsModel" "at" "I") (by decide +kernel)) (fun _ h9 => h9) rfl (by decide +kernel) rfl rfl (Nat.le_of_ble_eq_true rfl) dX10_read_138 (fun H locs hP hD hS => ?_)
                      have hP : va_P (dC, dI) vwCl (rW h cs (va_up (va_up (va_up (va_up I 12 x12_58) 15 (nI n_61)) 14 (nI (rr + 1))) 11 (nI (a_62 + 1))) L (va_up A 13 f13_59) Q) H := hP
                      have hD : va_D A0 (rW h cs (va_up (va_up (va_up (va_up I 12 x12_58) 15 (nI n_61)) 14 (nI (rr + 1))) 11 (nI (a_62 + 1))) L (va_up A 13 f13_59) Q) := hD
                      refine lv_goto (tgt := 17) hx hb dX10_read_141 (by decide) ?_
                      exact ih_17 1 (rr + 1) n_61 (nI n_61) (a_62 + 1) x12_58 f13_59 (by omega) (by first | assumption | omega) (by first | assumption | omega) (by first | exact (fun _ => ⟨by omega, by decide⟩) | exact (fun h9 => absurd h9 (by omega)) | exact (fun _ => ⟨by omega, by assumption⟩)) (by first | assumption | omega) (by first | exact (fun h9 => absurd h9 (by omega)) | exact (fun _ => ⟨rfl, by omega, by omega⟩)) (by first | exact (fun h9 => absurd h9 (by omega)) | exact (fun _ => by omega)) (by first | exact (fun _ i j hi => absurd hi (by omega)) | exact (fun h9 => absurd h9 hfl) | exact (fun h9 => absurd h9 (Int32.not_lt.mpr (by assumption))) | exact (fun h9 => rd_b hkp9 (fun i j a b => hb17 hm1.2 i j a b) (hrb9 h9) (by omega) (by omega)) | exact (fun h9 => rd_b hkp9 (fun i j a b => absurd a (by omega)) (hrb9 h9) (by omega) (by omega))) (by first | exact (fun _ => rfl) | exact (fun h9 => absurd h9 (by omega))) (fun _ => by have q9 := KM_sem hKM ((tp_c (by decide) (by decide)).mp (by assumption)) (by omega) (by omega); rw [(show rr * cc + n_61 = (rr + 1) * n_61 from by rw [show rr = 0 by omega, Nat.zero_mul]; omega)] at q9; exact q9) (fun h9 => absurd h9 (by omega)) _ _ _ hP hD hS (lv_sub hl [2, 0] rfl)
              · skip
                omega
  exact cut_17 _ 1 0 0 (I 15) 0 (-1) (A 13) (Nat.lt_succ_self _) (by first | assumption | omega) (by first | assumption | omega) (by first | exact (fun _ => ⟨by omega, by decide⟩) | exact (fun h9 => absurd h9 (by omega)) | exact (fun _ => ⟨by omega, by assumption⟩)) (by first | assumption | omega) (by first | exact (fun h9 => absurd h9 (by omega)) | exact (fun _ => ⟨rfl, by omega, by omega⟩)) (by first | exact (fun h9 => absurd h9 (by omega)) | exact (fun _ => by omega)) (by first | exact (fun _ i j hi => absurd hi (by omega)) | exact (fun h9 => absurd h9 hfl) | exact (fun h9 => absurd h9 (Int32.not_lt.mpr (by assumption))) | exact (fun h9 => rd_b hkp9 (fun i j a b => hb17 hm1.2 i j a b) (hrb9 h9) (by omega) (by omega)) | exact (fun h9 => rd_b hkp9 (fun i j a b => absurd a (by omega)) (hrb9 h9) (by omega) (by omega))) (by first | exact (fun _ => rfl) | exact (fun h9 => absurd h9 (by omega))) (fun _ => KP_0) (fun h9 => absurd h9 (by omega)) _ _ _ hP hD hS (lv_sub hl [1, 0] rfl)
