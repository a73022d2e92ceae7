
theorem pw_le {a M : Nat} (ha : a = 2 ∨ a = 4) (hM : M ≤ 4) : a ^ M ≤ 256 := by
  have h : a ^ M ≤ 4 ^ 4 := Nat.le_trans (Nat.pow_le_pow_left (show a ≤ 4 by omega) M) (Nat.pow_le_pow_right (by decide) hM)
  exact h
theorem pw_pos {a M : Nat} (ha : a = 2 ∨ a = 4) : 1 ≤ a ^ M := Nat.one_le_pow _ _ (by omega)
/-- a LETTER by its place in the number -/
def lettr (a v : Nat) : Int32 := nI (2 * (v % a)) - nI a + nI 1
def numF (f : Nat → Int32) (a : Nat) : Nat → Int32
  | 0 => nI 0
  | k + 1 => numF f a k * nI a + (f k + nI a - nI 1) / nI 2
def leftF (f : Nat → Int32) (a M w r : Nat) : Nat → Int32
  | 0 => f (5 * r + 4)
  | k + 1 => leftF f a M w r k - f (5 * r + k) * lettr a (w / a ^ (M - 1 - k))
def offF (f : Nat → Int32) (a M w : Nat) : Nat → Int32
  | 0 => nI 0
  | r + 1 => offF f a M w r + leftF f a M w r M * leftF f a M w r M
def aheadF (o : Nat → Int32) (w : Nat) : Nat → Nat
  | 0 => 0
  | n + 1 => aheadF o w n + if o n < o w ∨ (o n = o w ∧ n < w) then 1 else 0
theorem aheadF_le (o : Nat → Int32) (w : Nat) : ∀ n : Nat, aheadF o w n ≤ n
  | 0 => Nat.le_refl 0
  | n + 1 => by
    have h := aheadF_le o w n
    unfold aheadF
    split <;> omega
def foundF (o : Nat → Int32) (i n : Nat) : Nat → Int32
  | 0 => -1
  | w + 1 => if aheadF o w n = i then nI w else foundF o i n w
def bitF (l : Int32) (b : Nat) : Int32 := if b = 0 then (if 0 < l then nI 1 else nI 0) else (if l = -3 ∨ l = nI 3 then nI 0 else nI 1)
def up1 (z x : Int32) : Int32 := if z < 0 ∨ x < z then x else z
def soft0 (o bt : Nat → Int32) : Nat → Int32
  | 0 => -1
  | w + 1 => if bt w = nI 0 then up1 (soft0 o bt w) (o w) else soft0 o bt w
def soft1 (o bt : Nat → Int32) : Nat → Int32
  | 0 => -1
  | w + 1 => if bt w = nI 0 then soft1 o bt w else up1 (soft1 o bt w) (o w)
theorem let_step {w a M j v : Nat} (h0 : 0 < j) (hj : j ≤ M - 1) (hv : v = w / a ^ (M - 1 - j)) : v / a = w / a ^ (M - 1 - (j - 1)) := by
  rw [hv, Nat.div_div_eq_div_mul, ← Nat.pow_succ]
  congr 2
  omega

theorem offs_s {k : Nat} {g : Nat → Int32} {F : Nat → Int32} (h : ∀ t : Nat, t < k → g t = F t) : ∀ t : Nat, t < k + 1 → upd g k (F k) t = F t := fun t ht => by
  by_cases e : t = k
  · subst e
    exact pk_us
  · rw [pk_un e]
    exact h t (by omega)
theorem bdX10_words_0 : (decode cX10_words 0 = .ok (.iconst 1, 1)) ∧ (decode cX10_words 1 = .ok (.istore_n 1, 1)) ∧ (decode cX10_words 2 = .ok (.iconst 0, 1)) ∧ (decode cX10_words 3 = .ok (.istore_n 2, 1)) ∧ (decode cX10_words 4 = .ok (.iload_n 2, 1)) ∧ (decode cX10_words 5 = .ok (.aload_n 0, 1)) ∧ (decode cX10_words 6 = .ok (.getfield 13, 3)) ∧ (decode cX10_words 9 = .ok (.if_icmp .ge 16, 3)) ∧ (decode cX10_words 12 = .ok (.iload_n 1, 1)) ∧ (decode cX10_words 13 = .ok (.aload_n 0, 1)) ∧ (decode cX10_words 14 = .ok (.getfield 16, 3)) ∧ (decode cX10_words 17 = .ok (.imul, 1)) ∧ (decode cX10_words 18 = .ok (.istore_n 1, 1)) ∧ (decode cX10_words 19 = .ok (.iinc 2 1, 3)) ∧ (decode cX10_words 22 = .ok (.goto (-18), 3)) ∧ (decode cX10_words 25 = .ok (.iload_n 1, 1)) := by decide +kernel
theorem dX10_words_0 : decode cX10_words 0 = .ok (.iconst 1, 1) := bdX10_words_0.1
theorem dX10_words_1 : decode cX10_words 1 = .ok (.istore_n 1, 1) := bdX10_words_0.2.1
theorem dX10_words_2 : decode cX10_words 2 = .ok (.iconst 0, 1) := bdX10_words_0.2.2.1
theorem dX10_words_3 : decode cX10_words 3 = .ok (.istore_n 2, 1) := bdX10_words_0.2.2.2.1
theorem dX10_words_4 : decode cX10_words 4 = .ok (.iload_n 2, 1) := bdX10_words_0.2.2.2.2.1
theorem dX10_words_5 : decode cX10_words 5 = .ok (.aload_n 0, 1) := bdX10_words_0.2.2.2.2.2.1
theorem dX10_words_6 : decode cX10_words 6 = .ok (.getfield 13, 3) := bdX10_words_0.2.2.2.2.2.2.1
theorem dX10_words_9 : decode cX10_words 9 = .ok (.if_icmp .ge 16, 3) := bdX10_words_0.2.2.2.2.2.2.2.1
theorem dX10_words_12 : decode cX10_words 12 = .ok (.iload_n 1, 1) := bdX10_words_0.2.2.2.2.2.2.2.2.1
theorem dX10_words_13 : decode cX10_words 13 = .ok (.aload_n 0, 1) := bdX10_words_0.2.2.2.2.2.2.2.2.2.1
theorem dX10_words_14 : decode cX10_words 14 = .ok (.getfield 16, 3) := bdX10_words_0.2.2.2.2.2.2.2.2.2.2.1
theorem dX10_words_17 : decode cX10_words 17 = .ok (.imul, 1) := bdX10_words_0.2.2.2.2.2.2.2.2.2.2.2.1
theorem dX10_words_18 : decode cX10_words 18 = .ok (.istore_n 1, 1) := bdX10_words_0.2.2.2.2.2.2.2.2.2.2.2.2.1
theorem dX10_words_19 : decode cX10_words 19 = .ok (.iinc 2 1, 3) := bdX10_words_0.2.2.2.2.2.2.2.2.2.2.2.2.2.1
theorem dX10_words_22 : decode cX10_words 22 = .ok (.goto (-18), 3) := bdX10_words_0.2.2.2.2.2.2.2.2.2.2.2.2.2.2.1
theorem dX10_words_25 : decode cX10_words 25 = .ok (.iload_n 1, 1) := bdX10_words_0.2.2.2.2.2.2.2.2.2.2.2.2.2.2.2
theorem dX10_words_26 : decode cX10_words 26 = .ok (.ireturn, 1) := by decide +kernel
set_option maxHeartbeats 4000000 in
set_option maxRecDepth 100000 in
theorem k_X10_words (l : Launch) (dC : Nat → ClassId) (dI : Nat → Nat → Nat) (h : Nat → Nat) (cs : Nat → ClassId) (sz : Nat) (I : Nat → Int32) (L : Nat → Int64) (A : Nat → Nat → Int32) (Q : Nat → Nat → Int64) (M a : Nat) (hM : I 1 = nI M) (hM1 : 1 ≤ M) (hM4 : M ≤ 4) (ha : I 2 = nI a) (ha2 : a = 2 ∨ a = 4) : Met l yX10_words wsX10_words ({ frames := 0, cells := 0, slots := 0, locals := 0 }) (va_Pc [.ref (h 0)] (xPre (dC, dI) (rW h cs I L A Q) (tysA cs) sz)) (va_Qi (fun (r : Int32) (u : RS) => (r = nI (a ^ M)) ∧ u = (I, L, A, Q)) (xB (dC, dI) (tysA cs) (va_A (rW h cs I L A Q) sz) (fun u : RS => rW h cs u.1 u.2.1 u.2.2.1 u.2.2.2)) (va_A (rW h cs I L A Q) sz)) 0 0 (va_A (rW h cs I L A Q) sz) := by
  refine Met.ofW (cc := cX10_words) (maxL := 3) (ret := (some .int)) (by decide) rfl ?_
  intro p e s m args below meth c s₁ B hml hv
  obtain ⟨rfl, hsz, hP, hK, hD0, hN⟩ := hv
  have hx := B.exec
  have hb := B.bytes
  have hr := B.returns
  have hts := atoms_spec (ws := wsX10_words) B.pre
  have hown : s.vm.findClass RX10 = some m.cls := findClass_of_methodNamed B.named
  have hlocks := B.notSynchronized
  subst hsz
  have hD := hD0.self (sz := s.heap.size)
  generalize hAe : va_A (rW h cs I L A Q) s.heap.size = A0 at hD ⊢
  have hA : ∀ q : Nat, s.heap.size ≤ q → A0 q := fun q h => by rw [← hAe]; exact Or.inr h
  have hl := lv_entry ([.ref (h 0)]) (n := 3) (Nat.le_of_ble_eq_true rfl)
  rw [lg_entry_eq]
  generalize (lg_sl ([.ref (h 0)]) ++ List.replicate (3 - (lg_sl ([.ref (h 0)])).length) Slot.unset).toArray = ls at hl ⊢
  have hl : lv_has ls 3 [(0, .ref (h 0))] := hl
  generalize hH : s.heap = H at hP ⊢
  have hS : va_S A0 s.heap H [] := by rw [← hH]; exact va_S.rf
  have hinX10 : ∀ w ∈ wsX100, w ∈ wsX10_words := by decide +kernel
  refine lv_iconst (v := nI 1) hx hb dX10_words_0 (by decide) ?_
  refine lv_istore_n (lv' := [(1, .int (nI 1)), (0, .ref (h 0))]) hx hb dX10_words_1 rfl hl (by decide) rfl (fun ls hl => ?_)
  refine lv_iconst (v := nI 0) hx hb dX10_words_2 (by decide) ?_
  refine lv_istore_n (lv' := [(2, .int (nI 0)), (1, .int (nI 1)), (0, .ref (h 0))]) hx hb dX10_words_3 rfl hl (by decide) rfl (fun ls hl => ?_)
  have cut_4 : ∀ (nf : Nat) (k : Nat), (M - k) < nf → (k ≤ M) → ∀ (H : Heap) (locs : List Loc) (ls : Array Slot), va_P (dC, dI) vwCl (rW h cs I L A Q) H → va_D A0 (rW h cs I L A Q) → va_S A0 s.heap H locs → lv_has ls 3 [(0, .ref (h 0)), (1, .int (nI (a ^ k))), (2, .int (nI k))] → W p l e (headSpec wsX10_words ({ frames := 0, cells := 0, slots := 0, locals := 0 })).room s m ([.ref (h 0)] : List Value).toArray below meth c H locs 0 0 (MQ below (va_Qi (fun (r : Int32) (u : RS) => (r = nI (a ^ M)) ∧ u = (I, L, A, Q)) (xB (dC, dI) (tysA cs) A0 (fun u : RS => rW h cs u.1 u.2.1 u.2.2.1 u.2.2.2)) A0) ([.ref (h 0)] : List Value).toArray s 0 0 A0) (F0 m 4 ls []) := by
    intro nf
    induction nf with
    | zero => intro k hm; exact absurd hm (Nat.not_lt_zero _)
    | succ nf ih_4 =>
      intro k hm_4 hk_4 H locs ls hP hD hS hl
      refine lv_iload_n hx hb dX10_words_4 rfl (lv_at hl 2 rfl) ?_
      refine lv_aload_n hx hb dX10_words_5 rfl (lv_at hl 0 rfl) ?_
      refine va_get (D := (dC, dI)) (ci := 10) (v := .int (I 1)) (C := RX10) (T := TX10) (N := 28) hx hb hts hinX10 hown hK hP 0 rfl rfl 1 (by decide) (hts (.fieldLink RX10 13 "MixedWordsModel" "columns" "I") (by decide +kernel)) (fun _ h9 => h9) rfl dX10_words_6 ?_
      refine xt_i (y := nI M) (hM) ?_
      refine xn_ge (tgt := 25) hx hb dX10_words_9 (by decide) (by omega) (by omega) (fun c_9_0 => ?_) (fun c_9_0 => ?_)
      · skip
        refine lv_iload_n hx hb dX10_words_25 rfl (lv_at hl 1 rfl) ?_
        exact xr_i (v := (nI (a ^ k))) hx hb hr hlocks hK hS dX10_words_26 (I, L, A, Q) ⟨(by rw [show M = k by omega]), rfl⟩ hP hD
      · skip
        refine lv_iload_n hx hb dX10_words_12 rfl (lv_at hl 1 rfl) ?_
        refine lv_aload_n hx hb dX10_words_13 rfl (lv_at hl 0 rfl) ?_
        refine va_get (D := (dC, dI)) (ci := 10) (v := .int (I 2)) (C := RX10) (T := TX10) (N := 28) hx hb hts hinX10 hown hK hP 0 rfl rfl 2 (by decide) (hts (.fieldLink RX10 16 "MixedWordsModel" "a" "I") (by decide +kernel)) (fun _ h9 => h9) rfl dX10_words_14 ?_
        refine xt_i (y := nI a) (ha) ?_
        refine lv_imul hx hb dX10_words_17 ?_
        refine xt_i (y := nI ((a ^ k) * a)) (pk_mul _ _) ?_
        refine lv_istore_n (lv' := [(1, .int (nI ((a ^ k) * a))), (0, .ref (h 0)), (2, .int (nI k))]) hx hb dX10_words_18 rfl hl (by decide) rfl (fun ls hl => ?_)
        refine lv_iinc (v := nI (k + 1)) (lv' := [(2, .int (nI (k + 1))), (1, .int (nI ((a ^ k) * a))), (0, .ref (h 0))]) hx hb dX10_words_19 hl (k := 2) rfl (nI_1 _) (by decide) rfl (fun ls hl => ?_)
        refine lv_goto (tgt := 4) hx hb dX10_words_22 (by decide) ?_
        exact ih_4 (k + 1) (by omega) (by first | assumption | omega) _ _ _ hP hD hS (lv_sub hl [2, 1, 0] rfl)
  exact cut_4 _ 0 (Nat.lt_succ_self _) (by first | assumption | omega) _ _ _ hP hD hS (lv_sub hl [2, 1, 0] rfl)
set_option maxRecDepth 20000 in
theorem ggX10_isWord_X10_words : GoodIn wsX10_isWord wsX10_words := goodIn_r _ [5, 6, 7, 11, 12, 13, 14, 15, 16, 17, 18, 19, 20, 21, 22, 23, 24, 25, 26, 27, 28, 29, 30, 31, 32, 33, 34, 35, 36, 37, 38] rfl (by decide +kernel)
set_option maxRecDepth 20000 in
theorem gX10_isWord_X10_words : GoodIn wsX10_isWord (wsV RX10 153 RX10 yX10_words wsX10_words) := goodIn_app (goodIn_of _ (by decide +kernel)) ggX10_isWord_X10_words
set_option maxRecDepth 20000 in
theorem ggX10_isWord_X10_in : GoodIn wsX10_isWord wsX10_in := goodIn_r _ [10] rfl (by decide +kernel)
set_option maxRecDepth 20000 in
theorem gX10_isWord_X10_in : GoodIn wsX10_isWord (va_wsS RX10 77 yX10_in wsX10_in) := goodIn_app (goodIn_of _ (by decide +kernel)) ggX10_isWord_X10_in
theorem bdX10_isWord_0 : (decode cX10_isWord 0 = .ok (.iload_n 1, 1)) ∧ (decode cX10_isWord 1 = .ok (.i2l, 1)) ∧ (decode cX10_isWord 2 = .ok (.lconst 0, 1)) ∧ (decode cX10_isWord 3 = .ok (.aload_n 0, 1)) ∧ (decode cX10_isWord 4 = .ok (.invokevirtual 153, 3)) ∧ (decode cX10_isWord 7 = .ok (.iconst 1, 1)) ∧ (decode cX10_isWord 8 = .ok (.isub, 1)) ∧ (decode cX10_isWord 9 = .ok (.i2l, 1)) ∧ (decode cX10_isWord 10 = .ok (.invokestatic 77, 3)) ∧ (decode cX10_isWord 13 = .ok (.ireturn, 1)) := by decide +kernel
theorem dX10_isWord_0 : decode cX10_isWord 0 = .ok (.iload_n 1, 1) := bdX10_isWord_0.1
theorem dX10_isWord_1 : decode cX10_isWord 1 = .ok (.i2l, 1) := bdX10_isWord_0.2.1
theorem dX10_isWord_2 : decode cX10_isWord 2 = .ok (.lconst 0, 1) := bdX10_isWord_0.2.2.1
theorem dX10_isWord_3 : decode cX10_isWord 3 = .ok (.aload_n 0, 1) := bdX10_isWord_0.2.2.2.1
theorem dX10_isWord_4 : decode cX10_isWord 4 = .ok (.invokevirtual 153, 3) := bdX10_isWord_0.2.2.2.2.1
theorem dX10_isWord_7 : decode cX10_isWord 7 = .ok (.iconst 1, 1) := bdX10_isWord_0.2.2.2.2.2.1
theorem dX10_isWord_8 : decode cX10_isWord 8 = .ok (.isub, 1) := bdX10_isWord_0.2.2.2.2.2.2.1
theorem dX10_isWord_9 : decode cX10_isWord 9 = .ok (.i2l, 1) := bdX10_isWord_0.2.2.2.2.2.2.2.1
theorem dX10_isWord_10 : decode cX10_isWord 10 = .ok (.invokestatic 77, 3) := bdX10_isWord_0.2.2.2.2.2.2.2.2.1
theorem dX10_isWord_13 : decode cX10_isWord 13 = .ok (.ireturn, 1) := bdX10_isWord_0.2.2.2.2.2.2.2.2.2
set_option maxHeartbeats 4000000 in
set_option maxRecDepth 100000 in
theorem k_X10_isWord (l : Launch) (dC : Nat → ClassId) (dI : Nat → Nat → Nat) (h : Nat → Nat) (cs : Nat → ClassId) (sz : Nat) (I : Nat → Int32) (L : Nat → Int64) (A : Nat → Nat → Int32) (Q : Nat → Nat → Int64) (x : Int32) (M a : Nat) (hM : I 1 = nI M) (hM1 : 1 ≤ M) (hM4 : M ≤ 4) (ha : I 2 = nI a) (ha2 : a = 2 ∨ a = 4) : Met l yX10_isWord wsX10_isWord ({ frames := 1, cells := 0, slots := 0, locals := 25 }) (va_Pc [.ref (h 0), .int x] (xPre (dC, dI) (rW h cs I L A Q) (tysA cs) sz)) (va_Qi (fun (r : Int32) (u : RS) => ((r = nI 1 ∧ ∃ i : Nat, i < a ^ M ∧ x = nI i) ∨ (r = nI 0 ∧ ∀ i : Nat, i < a ^ M → x ≠ nI i)) ∧ u = (I, L, A, Q)) (xB (dC, dI) (tysA cs) (va_A (rW h cs I L A Q) sz) (fun u : RS => rW h cs u.1 u.2.1 u.2.2.1 u.2.2.2)) (va_A (rW h cs I L A Q) sz)) 0 0 (va_A (rW h cs I L A Q) sz) := by
  refine Met.ofW (cc := cX10_isWord) (maxL := 2) (ret := (some .boolean)) (by decide) rfl ?_
  intro p e s m args below meth c s₁ B hml hv
  obtain ⟨rfl, hsz, hP, hK, hD0, hN⟩ := hv
  have hx := B.exec
  have hb := B.bytes
  have hr := B.returns
  have hts := atoms_spec (ws := wsX10_isWord) B.pre
  have hown : s.vm.findClass RX10 = some m.cls := findClass_of_methodNamed B.named
  have hlocks := B.notSynchronized
  subst hsz
  have hD := hD0.self (sz := s.heap.size)
  generalize hAe : va_A (rW h cs I L A Q) s.heap.size = A0 at hD ⊢
  have hA : ∀ q : Nat, s.heap.size ≤ q → A0 q := fun q h => by rw [← hAe]; exact Or.inr h
  have hl := lv_entry ([.ref (h 0), .int x]) (n := 2) (Nat.le_of_ble_eq_true rfl)
  rw [lg_entry_eq]
  generalize (lg_sl ([.ref (h 0), .int x]) ++ List.replicate (2 - (lg_sl ([.ref (h 0), .int x])).length) Slot.unset).toArray = ls at hl ⊢
  have hl : lv_has ls 2 [(0, .ref (h 0)), (1, .int x)] := hl
  generalize hH : s.heap = H at hP ⊢
  have hS : va_S A0 s.heap H [] := by rw [← hH]; exact va_S.rf
  have hpw : a ^ M ≤ 256 := pw_le ha2 hM4
  have hpw1 : 1 ≤ a ^ M := pw_pos ha2
  refine lv_iload_n hx hb dX10_isWord_0 rfl (lv_at hl 1 rfl) ?_
  refine lv_i2l (v := x.toInt64) hx hb dX10_isWord_1 rfl ?_
  refine lv_lconst (v := 0) hx hb dX10_isWord_2 rfl ?_
  refine lv_aload_n hx hb dX10_isWord_3 rfl (lv_at hl 0 rfl) ?_
  refine xj_i (wc := (rW h cs I L A Q)) (wr := ([] : va_W)) hP hD hS hA [0, 1, 2, 3, 4, 5, 6, 7, 8, 9, 10, 11, 12, 13, 14, 15, 16] [] rfl rfl (by decide +kernel) (by decide +kernel) (va_runV (As := []) (rest := [.long (0 : Int64), .long x.toInt64]) ⟨hx, hb, hml, hown, hts⟩ (k_X10_words l dC dI h cs H.size I L A Q M a hM (by first | assumption | omega | exact hM1) (by first | assumption | omega | exact hM4) ha (by first | assumption | omega | exact ha2)) (cwV 0 hts gX10_isWord_X10_words rfl rfl rfl (by decide +kernel) ⟨Nat.le_of_ble_eq_true rfl, Nat.le_of_ble_eq_true rfl⟩) (xpV (wc := (rW h cs I L A Q)) hP hD hK hN [0, 1, 2, 3, 4, 5, 6, 7, 8, 9, 10, 11, 12, 13, 14, 15, 16] rfl (by decide) 0 (ci := 10) rfl rfl _) rfl rfl hl.1 rfl (lv_room (Nat.le_of_ble_eq_true rfl)) dX10_isWord_4 ⟨Nat.zero_le _, Nat.zero_le _⟩) (fun r_2 u_1 H locs hw hP hD hS => ?_)
  obtain ⟨hf_3, rfl⟩ := hw
  have hP : va_P (dC, dI) vwCl (rW h cs I L A Q) H := hP
  have hD : va_D A0 (rW h cs I L A Q) := hD
  obtain rfl := hf_3
  refine lv_iconst (v := nI 1) hx hb dX10_isWord_7 (by decide) ?_
  refine lv_isub hx hb dX10_isWord_8 ?_
  refine xt_i (y := nI ((a ^ M) - 1)) (pk_sub (by omega)) ?_
  refine lv_i2l (v := (nI ((a ^ M) - 1)).toInt64) hx hb dX10_isWord_9 rfl ?_
  refine xj_i (wc := ([] : va_W)) (wr := (rW h cs I L A Q)) hP hD hS hA [] [0, 1, 2, 3, 4, 5, 6, 7, 8, 9, 10, 11, 12, 13, 14, 15, 16] rfl rfl (by decide +kernel) (by decide +kernel) (va_runS (As := [.long x.toInt64, .long (0 : Int64), .long ((nI ((a ^ M) - 1)).toInt64)]) (rest := []) ⟨hx, hb, hml, hown, hts⟩ (k_X10_in l dC dI h cs H.size I L A Q x.toInt64 (0 : Int64) ((nI ((a ^ M) - 1)).toInt64)) (va_cwS 3 hts gX10_isWord_X10_in rfl rfl rfl (by decide +kernel) ⟨Nat.le_of_ble_eq_true rfl, Nat.le_of_ble_eq_true rfl⟩) (xpS (wc := ([] : va_W)) hP hD hK hN [] rfl (by decide) _) rfl rfl hl.1 rfl (lv_room (Nat.le_of_ble_eq_true rfl)) dX10_isWord_10 ⟨Nat.zero_le _, Nat.zero_le _⟩) (fun r_5 u_4 H locs hw hP hD hS => ?_)
  obtain ⟨hf_6, rfl⟩ := hw
  have hP : va_P (dC, dI) vwCl (rW h cs I L A Q) H := hP
  have hD : va_D A0 (rW h cs I L A Q) := hD
  have hq : (r_5 = nI 1 ∧ ∃ i : Nat, i < a ^ M ∧ x = nI i) ∨ (r_5 = nI 0 ∧ ∀ i : Nat, i < a ^ M → x ≠ nI i) := by
    rcases in_N (a := 0) (b := a ^ M - 1) rfl (nI_L (by omega)) hf_6 with ⟨h1, i, h2, h3, h4⟩ | ⟨h1, h2⟩
    · exact Or.inl ⟨h1, i, by omega, h4⟩
    · exact Or.inr ⟨h1, fun i hi => h2 i (by omega) (by omega) (by omega)⟩
  exact xr_z (v := r_5) hx hb hr hlocks hK hS dX10_isWord_13 (by rcases hq with ⟨e, -⟩ | ⟨e, -⟩ <;> (rw [e]; rfl)) (I, L, A, Q) ⟨hq, rfl⟩ hP hD
theorem bdX10_letter_0 : (decode cX10_letter 0 = .ok (.iload_n 1, 1)) ∧ (decode cX10_letter 1 = .ok (.istore_n 3, 1)) ∧ (decode cX10_letter 2 = .ok (.aload_n 0, 1)) ∧ (decode cX10_letter 3 = .ok (.getfield 13, 3)) ∧ (decode cX10_letter 6 = .ok (.iconst 1, 1)) ∧ (decode cX10_letter 7 = .ok (.isub, 1)) ∧ (decode cX10_letter 8 = .ok (.istore 4, 2)) ∧ (decode cX10_letter 10 = .ok (.iload 4, 2)) ∧ (decode cX10_letter 12 = .ok (.iload_n 2, 1)) ∧ (decode cX10_letter 13 = .ok (.if_icmp .le 16, 3)) ∧ (decode cX10_letter 16 = .ok (.iload_n 3, 1)) ∧ (decode cX10_letter 17 = .ok (.aload_n 0, 1)) ∧ (decode cX10_letter 18 = .ok (.getfield 16, 3)) ∧ (decode cX10_letter 21 = .ok (.idiv, 1)) ∧ (decode cX10_letter 22 = .ok (.istore_n 3, 1)) ∧ (decode cX10_letter 23 = .ok (.iinc 4 (-1), 3)) := by decide +kernel
theorem dX10_letter_0 : decode cX10_letter 0 = .ok (.iload_n 1, 1) := bdX10_letter_0.1
theorem dX10_letter_1 : decode cX10_letter 1 = .ok (.istore_n 3, 1) := bdX10_letter_0.2.1
theorem dX10_letter_2 : decode cX10_letter 2 = .ok (.aload_n 0, 1) := bdX10_letter_0.2.2.1
theorem dX10_letter_3 : decode cX10_letter 3 = .ok (.getfield 13, 3) := bdX10_letter_0.2.2.2.1
theorem dX10_letter_6 : decode cX10_letter 6 = .ok (.iconst 1, 1) := bdX10_letter_0.2.2.2.2.1
theorem dX10_letter_7 : decode cX10_letter 7 = .ok (.isub, 1) := bdX10_letter_0.2.2.2.2.2.1
theorem dX10_letter_8 : decode cX10_letter 8 = .ok (.istore 4, 2) := bdX10_letter_0.2.2.2.2.2.2.1
theorem dX10_letter_10 : decode cX10_letter 10 = .ok (.iload 4, 2) := bdX10_letter_0.2.2.2.2.2.2.2.1
theorem dX10_letter_12 : decode cX10_letter 12 = .ok (.iload_n 2, 1) := bdX10_letter_0.2.2.2.2.2.2.2.2.1
theorem dX10_letter_13 : decode cX10_letter 13 = .ok (.if_icmp .le 16, 3) := bdX10_letter_0.2.2.2.2.2.2.2.2.2.1
theorem dX10_letter_16 : decode cX10_letter 16 = .ok (.iload_n 3, 1) := bdX10_letter_0.2.2.2.2.2.2.2.2.2.2.1
theorem dX10_letter_17 : decode cX10_letter 17 = .ok (.aload_n 0, 1) := bdX10_letter_0.2.2.2.2.2.2.2.2.2.2.2.1
theorem dX10_letter_18 : decode cX10_letter 18 = .ok (.getfield 16, 3) := bdX10_letter_0.2.2.2.2.2.2.2.2.2.2.2.2.1
theorem dX10_letter_21 : decode cX10_letter 21 = .ok (.idiv, 1) := bdX10_letter_0.2.2.2.2.2.2.2.2.2.2.2.2.2.1
theorem dX10_letter_22 : decode cX10_letter 22 = .ok (.istore_n 3, 1) := bdX10_letter_0.2.2.2.2.2.2.2.2.2.2.2.2.2.2.1
theorem dX10_letter_23 : decode cX10_letter 23 = .ok (.iinc 4 (-1), 3) := bdX10_letter_0.2.2.2.2.2.2.2.2.2.2.2.2.2.2.2
theorem bdX10_letter_26 : (decode cX10_letter 26 = .ok (.goto (-16), 3)) ∧ (decode cX10_letter 29 = .ok (.iconst 2, 1)) ∧ (decode cX10_letter 30 = .ok (.iload_n 3, 1)) ∧ (decode cX10_letter 31 = .ok (.aload_n 0, 1)) ∧ (decode cX10_letter 32 = .ok (.getfield 16, 3)) ∧ (decode cX10_letter 35 = .ok (.irem, 1)) ∧ (decode cX10_letter 36 = .ok (.imul, 1)) ∧ (decode cX10_letter 37 = .ok (.aload_n 0, 1)) ∧ (decode cX10_letter 38 = .ok (.getfield 16, 3)) ∧ (decode cX10_letter 41 = .ok (.isub, 1)) ∧ (decode cX10_letter 42 = .ok (.iconst 1, 1)) ∧ (decode cX10_letter 43 = .ok (.iadd, 1)) ∧ (decode cX10_letter 44 = .ok (.ireturn, 1)) := by decide +kernel
theorem dX10_letter_26 : decode cX10_letter 26 = .ok (.goto (-16), 3) := bdX10_letter_26.1
theorem dX10_letter_29 : decode cX10_letter 29 = .ok (.iconst 2, 1) := bdX10_letter_26.2.1
theorem dX10_letter_30 : decode cX10_letter 30 = .ok (.iload_n 3, 1) := bdX10_letter_26.2.2.1
theorem dX10_letter_31 : decode cX10_letter 31 = .ok (.aload_n 0, 1) := bdX10_letter_26.2.2.2.1
theorem dX10_letter_32 : decode cX10_letter 32 = .ok (.getfield 16, 3) := bdX10_letter_26.2.2.2.2.1
theorem dX10_letter_35 : decode cX10_letter 35 = .ok (.irem, 1) := bdX10_letter_26.2.2.2.2.2.1
theorem dX10_letter_36 : decode cX10_letter 36 = .ok (.imul, 1) := bdX10_letter_26.2.2.2.2.2.2.1
theorem dX10_letter_37 : decode cX10_letter 37 = .ok (.aload_n 0, 1) := bdX10_letter_26.2.2.2.2.2.2.2.1
theorem dX10_letter_38 : decode cX10_letter 38 = .ok (.getfield 16, 3) := bdX10_letter_26.2.2.2.2.2.2.2.2.1
theorem dX10_letter_41 : decode cX10_letter 41 = .ok (.isub, 1) := bdX10_letter_26.2.2.2.2.2.2.2.2.2.1
theorem dX10_letter_42 : decode cX10_letter 42 = .ok (.iconst 1, 1) := bdX10_letter_26.2.2.2.2.2.2.2.2.2.2.1
theorem dX10_letter_43 : decode cX10_letter 43 = .ok (.iadd, 1) := bdX10_letter_26.2.2.2.2.2.2.2.2.2.2.2.1
theorem dX10_letter_44 : decode cX10_letter 44 = .ok (.ireturn, 1) := bdX10_letter_26.2.2.2.2.2.2.2.2.2.2.2.2
set_option maxHeartbeats 4000000 in
set_option maxRecDepth 100000 in
theorem k_X10_letter (l : Launch) (dC : Nat → ClassId) (dI : Nat → Nat → Nat) (h : Nat → Nat) (cs : Nat → ClassId) (sz : Nat) (I : Nat → Int32) (L : Nat → Int64) (A : Nat → Nat → Int32) (Q : Nat → Nat → Int64) (w cl M a : Nat) (hw : w ≤ 256) (hcl : cl < M) (hM : I 1 = nI M) (hM1 : 1 ≤ M) (hM4 : M ≤ 4) (ha : I 2 = nI a) (ha2 : a = 2 ∨ a = 4) : Met l yX10_letter wsX10_letter ({ frames := 0, cells := 0, slots := 0, locals := 0 }) (va_Pc [.ref (h 0), .int (nI w), .int (nI cl)] (xPre (dC, dI) (rW h cs I L A Q) (tysA cs) sz)) (va_Qi (fun (r : Int32) (u : RS) => (r = lettr a (w / a ^ (M - 1 - cl))) ∧ u = (I, L, A, Q)) (xB (dC, dI) (tysA cs) (va_A (rW h cs I L A Q) sz) (fun u : RS => rW h cs u.1 u.2.1 u.2.2.1 u.2.2.2)) (va_A (rW h cs I L A Q) sz)) 0 0 (va_A (rW h cs I L A Q) sz) := by
  refine Met.ofW (cc := cX10_letter) (maxL := 5) (ret := (some .int)) (by decide) rfl ?_
  intro p e s m args below meth c s₁ B hml hv
  obtain ⟨rfl, hsz, hP, hK, hD0, hN⟩ := hv
  have hx := B.exec
  have hb := B.bytes
  have hr := B.returns
  have hts := atoms_spec (ws := wsX10_letter) B.pre
  have hown : s.vm.findClass RX10 = some m.cls := findClass_of_methodNamed B.named
  have hlocks := B.notSynchronized
  subst hsz
  have hD := hD0.self (sz := s.heap.size)
  generalize hAe : va_A (rW h cs I L A Q) s.heap.size = A0 at hD ⊢
  have hA : ∀ q : Nat, s.heap.size ≤ q → A0 q := fun q h => by rw [← hAe]; exact Or.inr h
  have hl := lv_entry ([.ref (h 0), .int (nI w), .int (nI cl)]) (n := 5) (Nat.le_of_ble_eq_true rfl)
  rw [lg_entry_eq]
  generalize (lg_sl ([.ref (h 0), .int (nI w), .int (nI cl)]) ++ List.replicate (5 - (lg_sl ([.ref (h 0), .int (nI w), .int (nI cl)])).length) Slot.unset).toArray = ls at hl ⊢
  have hl : lv_has ls 5 [(0, .ref (h 0)), (1, .int (nI w)), (2, .int (nI cl))] := hl
  generalize hH : s.heap = H at hP ⊢
  have hS : va_S A0 s.heap H [] := by rw [← hH]; exact va_S.rf
  have hinX10 : ∀ w ∈ wsX100, w ∈ wsX10_letter := by decide +kernel
  refine lv_iload_n hx hb dX10_letter_0 rfl (lv_at hl 1 rfl) ?_
  refine lv_istore_n (lv' := [(3, .int (nI w)), (0, .ref (h 0)), (1, .int (nI w)), (2, .int (nI cl))]) hx hb dX10_letter_1 rfl hl (by decide) rfl (fun ls hl => ?_)
  refine lv_aload_n hx hb dX10_letter_2 rfl (lv_at hl 1 rfl) ?_
  refine va_get (D := (dC, dI)) (ci := 10) (v := .int (I 1)) (C := RX10) (T := TX10) (N := 28) hx hb hts hinX10 hown hK hP 0 rfl rfl 1 (by decide) (hts (.fieldLink RX10 13 "MixedWordsModel" "columns" "I") (by decide +kernel)) (fun _ h9 => h9) rfl dX10_letter_3 ?_
  refine xt_i (y := nI M) (hM) ?_
  refine lv_iconst (v := nI 1) hx hb dX10_letter_6 (by decide) ?_
  refine lv_isub hx hb dX10_letter_7 ?_
  refine xt_i (y := nI (M - 1)) (pk_sub (by omega)) ?_
  refine lv_istore (lv' := [(4, .int (nI (M - 1))), (3, .int (nI w)), (0, .ref (h 0)), (1, .int (nI w)), (2, .int (nI cl))]) hx hb dX10_letter_8 hl (by decide) rfl (fun ls hl => ?_)
  have cut_10 : ∀ (nf : Nat) (j : Nat) (v : Nat), j < nf → (cl ≤ j) → (j ≤ M - 1) → (v = w / a ^ (M - 1 - j)) → (v ≤ 256) → ∀ (H : Heap) (locs : List Loc) (ls : Array Slot), va_P (dC, dI) vwCl (rW h cs I L A Q) H → va_D A0 (rW h cs I L A Q) → va_S A0 s.heap H locs → lv_has ls 5 [(0, .ref (h 0)), (1, .int (nI w)), (2, .int (nI cl)), (3, .int (nI v)), (4, .int (nI j))] → W p l e (headSpec wsX10_letter ({ frames := 0, cells := 0, slots := 0, locals := 0 })).room s m ([.ref (h 0), .int (nI w), .int (nI cl)] : List Value).toArray below meth c H locs 0 0 (MQ below (va_Qi (fun (r : Int32) (u : RS) => (r = lettr a (w / a ^ (M - 1 - cl))) ∧ u = (I, L, A, Q)) (xB (dC, dI) (tysA cs) A0 (fun u : RS => rW h cs u.1 u.2.1 u.2.2.1 u.2.2.2)) A0) ([.ref (h 0), .int (nI w), .int (nI cl)] : List Value).toArray s 0 0 A0) (F0 m 10 ls []) := by
    intro nf
    induction nf with
    | zero => intro j v hm; exact absurd hm (Nat.not_lt_zero _)
    | succ nf ih_10 =>
      intro j v hm_10 hj_10 hjM_10 hv_10 hvb_10 H locs ls hP hD hS hl
      refine lv_iload hx hb dX10_letter_10 (lv_at hl 4 rfl) ?_
      refine lv_iload_n hx hb dX10_letter_12 rfl (lv_at hl 2 rfl) ?_
      refine xn_le (tgt := 29) hx hb dX10_letter_13 (by decide) (by omega) (by omega) (fun c_13_0 => ?_) (fun c_13_0 => ?_)
      · skip
        refine lv_iconst (v := nI 2) hx hb dX10_letter_29 (by decide) ?_
        refine lv_iload_n hx hb dX10_letter_30 rfl (lv_at hl 3 rfl) ?_
        refine lv_aload_n hx hb dX10_letter_31 rfl (lv_at hl 0 rfl) ?_
        refine va_get (D := (dC, dI)) (ci := 10) (v := .int (I 2)) (C := RX10) (T := TX10) (N := 28) hx hb hts hinX10 hown hK hP 0 rfl rfl 2 (by decide) (hts (.fieldLink RX10 16 "MixedWordsModel" "a" "I") (by decide +kernel)) (fun _ h9 => h9) rfl dX10_letter_32 ?_
        refine xt_i (y := nI a) (ha) ?_
        refine lv_irem hx hb dX10_letter_35 (nI_ne0 (by omega) (by omega)) ?_
        refine xt_i (y := nI (v % a)) (pk_rem (by omega) (by omega) (by omega)) ?_
        refine lv_imul hx hb dX10_letter_36 ?_
        refine xt_i (y := nI (2 * (v % a))) (pk_mul _ _) ?_
        refine lv_aload_n hx hb dX10_letter_37 rfl (lv_at hl 0 rfl) ?_
        refine va_get (D := (dC, dI)) (ci := 10) (v := .int (I 2)) (C := RX10) (T := TX10) (N := 28) hx hb hts hinX10 hown hK hP 0 rfl rfl 2 (by decide) (hts (.fieldLink RX10 16 "MixedWordsModel" "a" "I") (by decide +kernel)) (fun _ h9 => h9) rfl dX10_letter_38 ?_
        refine xt_i (y := nI a) (ha) ?_
        refine lv_isub hx hb dX10_letter_41 ?_
        refine lv_iconst (v := nI 1) hx hb dX10_letter_42 (by decide) ?_
        refine lv_iadd hx hb dX10_letter_43 ?_
        exact xr_i (v := (((nI (2 * (v % a))) - (nI a)) + (nI 1))) hx hb hr hlocks hK hS dX10_letter_44 (I, L, A, Q) ⟨(by rw [show cl = j by omega, ← hv_10]; rfl), rfl⟩ hP hD
      · skip
        refine lv_iload_n hx hb dX10_letter_16 rfl (lv_at hl 3 rfl) ?_
        refine lv_aload_n hx hb dX10_letter_17 rfl (lv_at hl 0 rfl) ?_
        refine va_get (D := (dC, dI)) (ci := 10) (v := .int (I 2)) (C := RX10) (T := TX10) (N := 28) hx hb hts hinX10 hown hK hP 0 rfl rfl 2 (by decide) (hts (.fieldLink RX10 16 "MixedWordsModel" "a" "I") (by decide +kernel)) (fun _ h9 => h9) rfl dX10_letter_18 ?_
        refine xt_i (y := nI a) (ha) ?_
        refine lv_idiv hx hb dX10_letter_21 (nI_ne0 (by omega) (by omega)) ?_
        refine xt_i (y := nI (v / a)) (pk_div (by omega) (by omega) (by omega)) ?_
        refine lv_istore_n (lv' := [(3, .int (nI (v / a))), (0, .ref (h 0)), (1, .int (nI w)), (2, .int (nI cl)), (4, .int (nI j))]) hx hb dX10_letter_22 rfl hl (by decide) rfl (fun ls hl => ?_)
        refine lv_iinc (v := nI (j - 1)) (lv' := [(4, .int (nI (j - 1))), (3, .int (nI (v / a))), (0, .ref (h 0)), (1, .int (nI w)), (2, .int (nI cl))]) hx hb dX10_letter_23 hl (k := 4) rfl (sb_m1 (by omega)) (by decide) rfl (fun ls hl => ?_)
        refine lv_goto (tgt := 10) hx hb dX10_letter_26 (by decide) ?_
        exact ih_10 (j - 1) (v / a) (by omega) (by first | assumption | omega) (by first | assumption | omega) (by first | exact let_step (by omega) hjM_10 hv_10 | (rw [Nat.sub_self, Nat.pow_zero, Nat.div_one])) (by first | omega | exact Nat.le_trans (Nat.div_le_self _ _) hvb_10) _ _ _ hP hD hS (lv_sub hl [2, 3, 4, 1, 0] rfl)
  exact cut_10 _ (M - 1) w (Nat.lt_succ_self _) (by first | assumption | omega) (by first | assumption | omega) (by first | exact let_step (by omega) hjM_10 hv_10 | (rw [Nat.sub_self, Nat.pow_zero, Nat.div_one])) (by first | omega | exact Nat.le_trans (Nat.div_le_self _ _) hvb_10) _ _ _ hP hD hS (lv_sub hl [2, 3, 4, 1, 0] rfl)
theorem bdX10_numberOf_0 : (decode cX10_numberOf 0 = .ok (.iconst 0, 1)) ∧ (decode cX10_numberOf 1 = .ok (.istore_n 2, 1)) ∧ (decode cX10_numberOf 2 = .ok (.iconst 0, 1)) ∧ (decode cX10_numberOf 3 = .ok (.istore_n 3, 1)) ∧ (decode cX10_numberOf 4 = .ok (.iload_n 3, 1)) ∧ (decode cX10_numberOf 5 = .ok (.aload_n 0, 1)) ∧ (decode cX10_numberOf 6 = .ok (.getfield 13, 3)) ∧ (decode cX10_numberOf 9 = .ok (.if_icmp .ge 29, 3)) ∧ (decode cX10_numberOf 12 = .ok (.iload_n 2, 1)) ∧ (decode cX10_numberOf 13 = .ok (.aload_n 0, 1)) ∧ (decode cX10_numberOf 14 = .ok (.getfield 16, 3)) ∧ (decode cX10_numberOf 17 = .ok (.imul, 1)) ∧ (decode cX10_numberOf 18 = .ok (.aload_n 1, 1)) ∧ (decode cX10_numberOf 19 = .ok (.iload_n 3, 1)) ∧ (decode cX10_numberOf 20 = .ok (.iaload, 1)) ∧ (decode cX10_numberOf 21 = .ok (.aload_n 0, 1)) := by decide +kernel
theorem dX10_numberOf_0 : decode cX10_numberOf 0 = .ok (.iconst 0, 1) := bdX10_numberOf_0.1
theorem dX10_numberOf_1 : decode cX10_numberOf 1 = .ok (.istore_n 2, 1) := bdX10_numberOf_0.2.1
theorem dX10_numberOf_2 : decode cX10_numberOf 2 = .ok (.iconst 0, 1) := bdX10_numberOf_0.2.2.1
theorem dX10_numberOf_3 : decode cX10_numberOf 3 = .ok (.istore_n 3, 1) := bdX10_numberOf_0.2.2.2.1
theorem dX10_numberOf_4 : decode cX10_numberOf 4 = .ok (.iload_n 3, 1) := bdX10_numberOf_0.2.2.2.2.1
theorem dX10_numberOf_5 : decode cX10_numberOf 5 = .ok (.aload_n 0, 1) := bdX10_numberOf_0.2.2.2.2.2.1
theorem dX10_numberOf_6 : decode cX10_numberOf 6 = .ok (.getfield 13, 3) := bdX10_numberOf_0.2.2.2.2.2.2.1
theorem dX10_numberOf_9 : decode cX10_numberOf 9 = .ok (.if_icmp .ge 29, 3) := bdX10_numberOf_0.2.2.2.2.2.2.2.1
theorem dX10_numberOf_12 : decode cX10_numberOf 12 = .ok (.iload_n 2, 1) := bdX10_numberOf_0.2.2.2.2.2.2.2.2.1
theorem dX10_numberOf_13 : decode cX10_numberOf 13 = .ok (.aload_n 0, 1) := bdX10_numberOf_0.2.2.2.2.2.2.2.2.2.1
theorem dX10_numberOf_14 : decode cX10_numberOf 14 = .ok (.getfield 16, 3) := bdX10_numberOf_0.2.2.2.2.2.2.2.2.2.2.1
theorem dX10_numberOf_17 : decode cX10_numberOf 17 = .ok (.imul, 1) := bdX10_numberOf_0.2.2.2.2.2.2.2.2.2.2.2.1
theorem dX10_numberOf_18 : decode cX10_numberOf 18 = .ok (.aload_n 1, 1) := bdX10_numberOf_0.2.2.2.2.2.2.2.2.2.2.2.2.1
theorem dX10_numberOf_19 : decode cX10_numberOf 19 = .ok (.iload_n 3, 1) := bdX10_numberOf_0.2.2.2.2.2.2.2.2.2.2.2.2.2.1
theorem dX10_numberOf_20 : decode cX10_numberOf 20 = .ok (.iaload, 1) := bdX10_numberOf_0.2.2.2.2.2.2.2.2.2.2.2.2.2.2.1
theorem dX10_numberOf_21 : decode cX10_numberOf 21 = .ok (.aload_n 0, 1) := bdX10_numberOf_0.2.2.2.2.2.2.2.2.2.2.2.2.2.2.2
theorem bdX10_numberOf_22 : (decode cX10_numberOf 22 = .ok (.getfield 16, 3)) ∧ (decode cX10_numberOf 25 = .ok (.iadd, 1)) ∧ (decode cX10_numberOf 26 = .ok (.iconst 1, 1)) ∧ (decode cX10_numberOf 27 = .ok (.isub, 1)) ∧ (decode cX10_numberOf 28 = .ok (.iconst 2, 1)) ∧ (decode cX10_numberOf 29 = .ok (.idiv, 1)) ∧ (decode cX10_numberOf 30 = .ok (.iadd, 1)) ∧ (decode cX10_numberOf 31 = .ok (.istore_n 2, 1)) ∧ (decode cX10_numberOf 32 = .ok (.iinc 3 1, 3)) ∧ (decode cX10_numberOf 35 = .ok (.goto (-31), 3)) ∧ (decode cX10_numberOf 38 = .ok (.iload_n 2, 1)) ∧ (decode cX10_numberOf 39 = .ok (.ireturn, 1)) := by decide +kernel
theorem dX10_numberOf_22 : decode cX10_numberOf 22 = .ok (.getfield 16, 3) := bdX10_numberOf_22.1
theorem dX10_numberOf_25 : decode cX10_numberOf 25 = .ok (.iadd, 1) := bdX10_numberOf_22.2.1
theorem dX10_numberOf_26 : decode cX10_numberOf 26 = .ok (.iconst 1, 1) := bdX10_numberOf_22.2.2.1
theorem dX10_numberOf_27 : decode cX10_numberOf 27 = .ok (.isub, 1) := bdX10_numberOf_22.2.2.2.1
theorem dX10_numberOf_28 : decode cX10_numberOf 28 = .ok (.iconst 2, 1) := bdX10_numberOf_22.2.2.2.2.1
theorem dX10_numberOf_29 : decode cX10_numberOf 29 = .ok (.idiv, 1) := bdX10_numberOf_22.2.2.2.2.2.1
theorem dX10_numberOf_30 : decode cX10_numberOf 30 = .ok (.iadd, 1) := bdX10_numberOf_22.2.2.2.2.2.2.1
theorem dX10_numberOf_31 : decode cX10_numberOf 31 = .ok (.istore_n 2, 1) := bdX10_numberOf_22.2.2.2.2.2.2.2.1
theorem dX10_numberOf_32 : decode cX10_numberOf 32 = .ok (.iinc 3 1, 3) := bdX10_numberOf_22.2.2.2.2.2.2.2.2.1
theorem dX10_numberOf_35 : decode cX10_numberOf 35 = .ok (.goto (-31), 3) := bdX10_numberOf_22.2.2.2.2.2.2.2.2.2.1
theorem dX10_numberOf_38 : decode cX10_numberOf 38 = .ok (.iload_n 2, 1) := bdX10_numberOf_22.2.2.2.2.2.2.2.2.2.2.1
theorem dX10_numberOf_39 : decode cX10_numberOf 39 = .ok (.ireturn, 1) := bdX10_numberOf_22.2.2.2.2.2.2.2.2.2.2.2
set_option maxHeartbeats 4000000 in
set_option maxRecDepth 100000 in
theorem k_X10_numberOf (l : Launch) (dC : Nat → ClassId) (dI : Nat → Nat → Nat) (h : Nat → Nat) (cs : Nat → ClassId) (sz : Nat) (I : Nat → Int32) (L : Nat → Int64) (A : Nat → Nat → Int32) (Q : Nat → Nat → Int64) (M a : Nat) (hM : I 1 = nI M) (hM1 : 1 ≤ M) (hM4 : M ≤ 4) (ha : I 2 = nI a) (ha2 : a = 2 ∨ a = 4) : Met l yX10_numberOf wsX10_numberOf ({ frames := 0, cells := 0, slots := 0, locals := 0 }) (va_Pc [.ref (h 0), .ref (h 23)] (xPre (dC, dI) (rW h cs I L A Q) (tysA cs) sz)) (va_Qi (fun (r : Int32) (u : RS) => (r = numF (A 23) a M) ∧ u = (I, L, A, Q)) (xB (dC, dI) (tysA cs) (va_A (rW h cs I L A Q) sz) (fun u : RS => rW h cs u.1 u.2.1 u.2.2.1 u.2.2.2)) (va_A (rW h cs I L A Q) sz)) 0 0 (va_A (rW h cs I L A Q) sz) := by
  refine Met.ofW (cc := cX10_numberOf) (maxL := 4) (ret := (some .int)) (by decide) rfl ?_
  intro p e s m args below meth c s₁ B hml hv
  obtain ⟨rfl, hsz, hP, hK, hD0, hN⟩ := hv
  have hx := B.exec
  have hb := B.bytes
  have hr := B.returns
  have hts := atoms_spec (ws := wsX10_numberOf) B.pre
  have hown : s.vm.findClass RX10 = some m.cls := findClass_of_methodNamed B.named
  have hlocks := B.notSynchronized
  subst hsz
  have hD := hD0.self (sz := s.heap.size)
  generalize hAe : va_A (rW h cs I L A Q) s.heap.size = A0 at hD ⊢
  have hA : ∀ q : Nat, s.heap.size ≤ q → A0 q := fun q h => by rw [← hAe]; exact Or.inr h
  have hl := lv_entry ([.ref (h 0), .ref (h 23)]) (n := 4) (Nat.le_of_ble_eq_true rfl)
  rw [lg_entry_eq]
  generalize (lg_sl ([.ref (h 0), .ref (h 23)]) ++ List.replicate (4 - (lg_sl ([.ref (h 0), .ref (h 23)])).length) Slot.unset).toArray = ls at hl ⊢
  have hl : lv_has ls 4 [(0, .ref (h 0)), (1, .ref (h 23))] := hl
  generalize hH : s.heap = H at hP ⊢
  have hS : va_S A0 s.heap H [] := by rw [← hH]; exact va_S.rf
  have hinX10 : ∀ w ∈ wsX100, w ∈ wsX10_numberOf := by decide +kernel
  refine lv_iconst (v := nI 0) hx hb dX10_numberOf_0 (by decide) ?_
  refine lv_istore_n (lv' := [(2, .int (nI 0)), (0, .ref (h 0)), (1, .ref (h 23))]) hx hb dX10_numberOf_1 rfl hl (by decide) rfl (fun ls hl => ?_)
  refine lv_iconst (v := nI 0) hx hb dX10_numberOf_2 (by decide) ?_
  refine lv_istore_n (lv' := [(3, .int (nI 0)), (2, .int (nI 0)), (0, .ref (h 0)), (1, .ref (h 23))]) hx hb dX10_numberOf_3 rfl hl (by decide) rfl (fun ls hl => ?_)
  have cut_4 : ∀ (nf : Nat) (k : Nat), (M - k) < nf → (k ≤ M) → ∀ (H : Heap) (locs : List Loc) (ls : Array Slot), va_P (dC, dI) vwCl (rW h cs I L A Q) H → va_D A0 (rW h cs I L A Q) → va_S A0 s.heap H locs → lv_has ls 4 [(0, .ref (h 0)), (1, .ref (h 23)), (2, .int (numF (A 23) a k)), (3, .int (nI k))] → W p l e (headSpec wsX10_numberOf ({ frames := 0, cells := 0, slots := 0, locals := 0 })).room s m ([.ref (h 0), .ref (h 23)] : List Value).toArray below meth c H locs 0 0 (MQ below (va_Qi (fun (r : Int32) (u : RS) => (r = numF (A 23) a M) ∧ u = (I, L, A, Q)) (xB (dC, dI) (tysA cs) A0 (fun u : RS => rW h cs u.1 u.2.1 u.2.2.1 u.2.2.2)) A0) ([.ref (h 0), .ref (h 23)] : List Value).toArray s 0 0 A0) (F0 m 4 ls []) := by
    intro nf
    induction nf with
    | zero => intro k hm; exact absurd hm (Nat.not_lt_zero _)
    | succ nf ih_4 =>
      intro k hm_4 hk_4 H locs ls hP hD hS hl
      refine lv_iload_n hx hb dX10_numberOf_4 rfl (lv_at hl 3 rfl) ?_
      refine lv_aload_n hx hb dX10_numberOf_5 rfl (lv_at hl 0 rfl) ?_
      refine va_get (D := (dC, dI)) (ci := 10) (v := .int (I 1)) (C := RX10) (T := TX10) (N := 28) hx hb hts hinX10 hown hK hP 0 rfl rfl 1 (by decide) (hts (.fieldLink RX10 13 "MixedWordsModel" "columns" "I") (by decide +kernel)) (fun _ h9 => h9) rfl dX10_numberOf_6 ?_
      refine xt_i (y := nI M) (hM) ?_
      refine xn_ge (tgt := 38) hx hb dX10_numberOf_9 (by decide) (by omega) (by omega) (fun c_9_0 => ?_) (fun c_9_0 => ?_)
      · skip
        refine lv_iload_n hx hb dX10_numberOf_38 rfl (lv_at hl 2 rfl) ?_
        exact xr_i (v := (numF (A 23) a k)) hx hb hr hlocks hK hS dX10_numberOf_39 (I, L, A, Q) ⟨(by rw [show M = k by omega]), rfl⟩ hP hD
      · skip
        refine lv_iload_n hx hb dX10_numberOf_12 rfl (lv_at hl 2 rfl) ?_
        refine lv_aload_n hx hb dX10_numberOf_13 rfl (lv_at hl 0 rfl) ?_
        refine va_get (D := (dC, dI)) (ci := 10) (v := .int (I 2)) (C := RX10) (T := TX10) (N := 28) hx hb hts hinX10 hown hK hP 0 rfl rfl 2 (by decide) (hts (.fieldLink RX10 16 "MixedWordsModel" "a" "I") (by decide +kernel)) (fun _ h9 => h9) rfl dX10_numberOf_14 ?_
        refine xt_i (y := nI a) (ha) ?_
        refine lv_imul hx hb dX10_numberOf_17 ?_
        refine lv_aload_n hx hb dX10_numberOf_18 rfl (lv_at hl 1 rfl) ?_
        refine lv_iload_n hx hb dX10_numberOf_19 rfl (lv_at hl 3 rfl) ?_
        refine xa_iald hx hb hK hP 12 0 rfl rfl (by omega) (by decide) dX10_numberOf_20 ?_
        refine lv_aload_n hx hb dX10_numberOf_21 rfl (lv_at hl 0 rfl) ?_
        refine va_get (D := (dC, dI)) (ci := 10) (v := .int (I 2)) (C := RX10) (T := TX10) (N := 28) hx hb hts hinX10 hown hK hP 0 rfl rfl 2 (by decide) (hts (.fieldLink RX10 16 "MixedWordsModel" "a" "I") (by decide +kernel)) (fun _ h9 => h9) rfl dX10_numberOf_22 ?_
        refine xt_i (y := nI a) (ha) ?_
        refine lv_iadd hx hb dX10_numberOf_25 ?_
        refine lv_iconst (v := nI 1) hx hb dX10_numberOf_26 (by decide) ?_
        refine lv_isub hx hb dX10_numberOf_27 ?_
        refine lv_iconst (v := nI 2) hx hb dX10_numberOf_28 (by decide) ?_
        refine lv_idiv hx hb dX10_numberOf_29 (by decide) ?_
        refine lv_iadd hx hb dX10_numberOf_30 ?_
        refine lv_istore_n (lv' := [(2, .int (((numF (A 23) a k) * (nI a)) + ((((A 23 k) + (nI a)) - (nI 1)) / (nI 2)))), (0, .ref (h 0)), (1, .ref (h 23)), (3, .int (nI k))]) hx hb dX10_numberOf_31 rfl hl (by decide) rfl (fun ls hl => ?_)
        refine lv_iinc (v := nI (k + 1)) (lv' := [(3, .int (nI (k + 1))), (2, .int (((numF (A 23) a k) * (nI a)) + ((((A 23 k) + (nI a)) - (nI 1)) / (nI 2)))), (0, .ref (h 0)), (1, .ref (h 23))]) hx hb dX10_numberOf_32 hl (k := 3) rfl (nI_1 _) (by decide) rfl (fun ls hl => ?_)
        refine lv_goto (tgt := 4) hx hb dX10_numberOf_35 (by decide) ?_
        exact ih_4 (k + 1) (by omega) (by first | assumption | omega) _ _ _ hP hD hS (lv_sub hl [2, 3, 1, 0] rfl)
  exact cut_4 _ 0 (Nat.lt_succ_self _) (by first | assumption | omega) _ _ _ hP hD hS (lv_sub hl [2, 3, 1, 0] rfl)
set_option maxRecDepth 20000 in
theorem ggX10_offOf_X10_letter : GoodIn wsX10_offOf wsX10_letter := goodIn_r _ [8, 3, 9, 10, 11, 12, 13, 14, 15, 16, 17, 18, 19, 20, 21, 22, 23, 24, 25, 26, 27, 28, 29, 30, 31, 32, 33, 34, 35, 36, 37] rfl (by decide +kernel)
set_option maxRecDepth 20000 in
theorem gX10_offOf_X10_letter : GoodIn wsX10_offOf (wsV RX10 156 RX10 yX10_letter wsX10_letter) := goodIn_app (goodIn_of _ (by decide +kernel)) ggX10_offOf_X10_letter
theorem bdX10_offOf_0 : (decode cX10_offOf 0 = .ok (.iconst 0, 1)) ∧ (decode cX10_offOf 1 = .ok (.istore_n 2, 1)) ∧ (decode cX10_offOf 2 = .ok (.iconst 0, 1)) ∧ (decode cX10_offOf 3 = .ok (.istore_n 3, 1)) ∧ (decode cX10_offOf 4 = .ok (.iload_n 3, 1)) ∧ (decode cX10_offOf 5 = .ok (.aload_n 0, 1)) ∧ (decode cX10_offOf 6 = .ok (.getfield 7, 3)) ∧ (decode cX10_offOf 9 = .ok (.if_icmp .ge 71, 3)) ∧ (decode cX10_offOf 12 = .ok (.aload_n 0, 1)) ∧ (decode cX10_offOf 13 = .ok (.getfield 19, 3)) ∧ (decode cX10_offOf 16 = .ok (.iconst 5, 1)) ∧ (decode cX10_offOf 17 = .ok (.iload_n 3, 1)) ∧ (decode cX10_offOf 18 = .ok (.imul, 1)) ∧ (decode cX10_offOf 19 = .ok (.iconst 4, 1)) ∧ (decode cX10_offOf 20 = .ok (.iadd, 1)) ∧ (decode cX10_offOf 21 = .ok (.iaload, 1)) := by decide +kernel
theorem dX10_offOf_0 : decode cX10_offOf 0 = .ok (.iconst 0, 1) := bdX10_offOf_0.1
theorem dX10_offOf_1 : decode cX10_offOf 1 = .ok (.istore_n 2, 1) := bdX10_offOf_0.2.1
theorem dX10_offOf_2 : decode cX10_offOf 2 = .ok (.iconst 0, 1) := bdX10_offOf_0.2.2.1
theorem dX10_offOf_3 : decode cX10_offOf 3 = .ok (.istore_n 3, 1) := bdX10_offOf_0.2.2.2.1
theorem dX10_offOf_4 : decode cX10_offOf 4 = .ok (.iload_n 3, 1) := bdX10_offOf_0.2.2.2.2.1
theorem dX10_offOf_5 : decode cX10_offOf 5 = .ok (.aload_n 0, 1) := bdX10_offOf_0.2.2.2.2.2.1
theorem dX10_offOf_6 : decode cX10_offOf 6 = .ok (.getfield 7, 3) := bdX10_offOf_0.2.2.2.2.2.2.1
theorem dX10_offOf_9 : decode cX10_offOf 9 = .ok (.if_icmp .ge 71, 3) := bdX10_offOf_0.2.2.2.2.2.2.2.1
theorem dX10_offOf_12 : decode cX10_offOf 12 = .ok (.aload_n 0, 1) := bdX10_offOf_0.2.2.2.2.2.2.2.2.1
theorem dX10_offOf_13 : decode cX10_offOf 13 = .ok (.getfield 19, 3) := bdX10_offOf_0.2.2.2.2.2.2.2.2.2.1
theorem dX10_offOf_16 : decode cX10_offOf 16 = .ok (.iconst 5, 1) := bdX10_offOf_0.2.2.2.2.2.2.2.2.2.2.1
theorem dX10_offOf_17 : decode cX10_offOf 17 = .ok (.iload_n 3, 1) := bdX10_offOf_0.2.2.2.2.2.2.2.2.2.2.2.1
theorem dX10_offOf_18 : decode cX10_offOf 18 = .ok (.imul, 1) := bdX10_offOf_0.2.2.2.2.2.2.2.2.2.2.2.2.1
theorem dX10_offOf_19 : decode cX10_offOf 19 = .ok (.iconst 4, 1) := bdX10_offOf_0.2.2.2.2.2.2.2.2.2.2.2.2.2.1
theorem dX10_offOf_20 : decode cX10_offOf 20 = .ok (.iadd, 1) := bdX10_offOf_0.2.2.2.2.2.2.2.2.2.2.2.2.2.2.1
theorem dX10_offOf_21 : decode cX10_offOf 21 = .ok (.iaload, 1) := bdX10_offOf_0.2.2.2.2.2.2.2.2.2.2.2.2.2.2.2
theorem bdX10_offOf_22 : (decode cX10_offOf 22 = .ok (.istore 4, 2)) ∧ (decode cX10_offOf 24 = .ok (.iconst 0, 1)) ∧ (decode cX10_offOf 25 = .ok (.istore 5, 2)) ∧ (decode cX10_offOf 27 = .ok (.iload 5, 2)) ∧ (decode cX10_offOf 29 = .ok (.aload_n 0, 1)) ∧ (decode cX10_offOf 30 = .ok (.getfield 13, 3)) ∧ (decode cX10_offOf 33 = .ok (.if_icmp .ge 33, 3)) ∧ (decode cX10_offOf 36 = .ok (.iload 4, 2)) ∧ (decode cX10_offOf 38 = .ok (.aload_n 0, 1)) ∧ (decode cX10_offOf 39 = .ok (.getfield 19, 3)) ∧ (decode cX10_offOf 42 = .ok (.iconst 5, 1)) ∧ (decode cX10_offOf 43 = .ok (.iload_n 3, 1)) ∧ (decode cX10_offOf 44 = .ok (.imul, 1)) ∧ (decode cX10_offOf 45 = .ok (.iload 5, 2)) ∧ (decode cX10_offOf 47 = .ok (.iadd, 1)) ∧ (decode cX10_offOf 48 = .ok (.iaload, 1)) := by decide +kernel
theorem dX10_offOf_22 : decode cX10_offOf 22 = .ok (.istore 4, 2) := bdX10_offOf_22.1
theorem dX10_offOf_24 : decode cX10_offOf 24 = .ok (.iconst 0, 1) := bdX10_offOf_22.2.1
theorem dX10_offOf_25 : decode cX10_offOf 25 = .ok (.istore 5, 2) := bdX10_offOf_22.2.2.1
theorem dX10_offOf_27 : decode cX10_offOf 27 = .ok (.iload 5, 2) := bdX10_offOf_22.2.2.2.1
theorem dX10_offOf_29 : decode cX10_offOf 29 = .ok (.aload_n 0, 1) := bdX10_offOf_22.2.2.2.2.1
theorem dX10_offOf_30 : decode cX10_offOf 30 = .ok (.getfield 13, 3) := bdX10_offOf_22.2.2.2.2.2.1
theorem dX10_offOf_33 : decode cX10_offOf 33 = .ok (.if_icmp .ge 33, 3) := bdX10_offOf_22.2.2.2.2.2.2.1
theorem dX10_offOf_36 : decode cX10_offOf 36 = .ok (.iload 4, 2) := bdX10_offOf_22.2.2.2.2.2.2.2.1
theorem dX10_offOf_38 : decode cX10_offOf 38 = .ok (.aload_n 0, 1) := bdX10_offOf_22.2.2.2.2.2.2.2.2.1
theorem dX10_offOf_39 : decode cX10_offOf 39 = .ok (.getfield 19, 3) := bdX10_offOf_22.2.2.2.2.2.2.2.2.2.1
theorem dX10_offOf_42 : decode cX10_offOf 42 = .ok (.iconst 5, 1) := bdX10_offOf_22.2.2.2.2.2.2.2.2.2.2.1
theorem dX10_offOf_43 : decode cX10_offOf 43 = .ok (.iload_n 3, 1) := bdX10_offOf_22.2.2.2.2.2.2.2.2.2.2.2.1
theorem dX10_offOf_44 : decode cX10_offOf 44 = .ok (.imul, 1) := bdX10_offOf_22.2.2.2.2.2.2.2.2.2.2.2.2.1
theorem dX10_offOf_45 : decode cX10_offOf 45 = .ok (.iload 5, 2) := bdX10_offOf_22.2.2.2.2.2.2.2.2.2.2.2.2.2.1
theorem dX10_offOf_47 : decode cX10_offOf 47 = .ok (.iadd, 1) := bdX10_offOf_22.2.2.2.2.2.2.2.2.2.2.2.2.2.2.1
theorem dX10_offOf_48 : decode cX10_offOf 48 = .ok (.iaload, 1) := bdX10_offOf_22.2.2.2.2.2.2.2.2.2.2.2.2.2.2.2
theorem bdX10_offOf_49 : (decode cX10_offOf 49 = .ok (.aload_n 0, 1)) ∧ (decode cX10_offOf 50 = .ok (.iload_n 1, 1)) ∧ (decode cX10_offOf 51 = .ok (.iload 5, 2)) ∧ (decode cX10_offOf 53 = .ok (.invokevirtual 156, 3)) ∧ (decode cX10_offOf 56 = .ok (.imul, 1)) ∧ (decode cX10_offOf 57 = .ok (.isub, 1)) ∧ (decode cX10_offOf 58 = .ok (.istore 4, 2)) ∧ (decode cX10_offOf 60 = .ok (.iinc 5 1, 3)) ∧ (decode cX10_offOf 63 = .ok (.goto (-36), 3)) ∧ (decode cX10_offOf 66 = .ok (.iload_n 2, 1)) ∧ (decode cX10_offOf 67 = .ok (.iload 4, 2)) ∧ (decode cX10_offOf 69 = .ok (.iload 4, 2)) ∧ (decode cX10_offOf 71 = .ok (.imul, 1)) ∧ (decode cX10_offOf 72 = .ok (.iadd, 1)) ∧ (decode cX10_offOf 73 = .ok (.istore_n 2, 1)) ∧ (decode cX10_offOf 74 = .ok (.iinc 3 1, 3)) := by decide +kernel
theorem dX10_offOf_49 : decode cX10_offOf 49 = .ok (.aload_n 0, 1) := bdX10_offOf_49.1
theorem dX10_offOf_50 : decode cX10_offOf 50 = .ok (.iload_n 1, 1) := bdX10_offOf_49.2.1
theorem dX10_offOf_51 : decode cX10_offOf 51 = .ok (.iload 5, 2) := bdX10_offOf_49.2.2.1
theorem dX10_offOf_53 : decode cX10_offOf 53 = .ok (.invokevirtual 156, 3) := bdX10_offOf_49.2.2.2.1
theorem dX10_offOf_56 : decode cX10_offOf 56 = .ok (.imul, 1) := bdX10_offOf_49.2.2.2.2.1
theorem dX10_offOf_57 : decode cX10_offOf 57 = .ok (.isub, 1) := bdX10_offOf_49.2.2.2.2.2.1
theorem dX10_offOf_58 : decode cX10_offOf 58 = .ok (.istore 4, 2) := bdX10_offOf_49.2.2.2.2.2.2.1
theorem dX10_offOf_60 : decode cX10_offOf 60 = .ok (.iinc 5 1, 3) := bdX10_offOf_49.2.2.2.2.2.2.2.1
theorem dX10_offOf_63 : decode cX10_offOf 63 = .ok (.goto (-36), 3) := bdX10_offOf_49.2.2.2.2.2.2.2.2.1
theorem dX10_offOf_66 : decode cX10_offOf 66 = .ok (.iload_n 2, 1) := bdX10_offOf_49.2.2.2.2.2.2.2.2.2.1
theorem dX10_offOf_67 : decode cX10_offOf 67 = .ok (.iload 4, 2) := bdX10_offOf_49.2.2.2.2.2.2.2.2.2.2.1
theorem dX10_offOf_69 : decode cX10_offOf 69 = .ok (.iload 4, 2) := bdX10_offOf_49.2.2.2.2.2.2.2.2.2.2.2.1
theorem dX10_offOf_71 : decode cX10_offOf 71 = .ok (.imul, 1) := bdX10_offOf_49.2.2.2.2.2.2.2.2.2.2.2.2.1
theorem dX10_offOf_72 : decode cX10_offOf 72 = .ok (.iadd, 1) := bdX10_offOf_49.2.2.2.2.2.2.2.2.2.2.2.2.2.1
theorem dX10_offOf_73 : decode cX10_offOf 73 = .ok (.istore_n 2, 1) := bdX10_offOf_49.2.2.2.2.2.2.2.2.2.2.2.2.2.2.1
theorem dX10_offOf_74 : decode cX10_offOf 74 = .ok (.iinc 3 1, 3) := bdX10_offOf_49.2.2.2.2.2.2.2.2.2.2.2.2.2.2.2
theorem bdX10_offOf_77 : (decode cX10_offOf 77 = .ok (.goto (-73), 3)) ∧ (decode cX10_offOf 80 = .ok (.iload_n 2, 1)) ∧ (decode cX10_offOf 81 = .ok (.ireturn, 1)) := by decide +kernel
theorem dX10_offOf_77 : decode cX10_offOf 77 = .ok (.goto (-73), 3) := bdX10_offOf_77.1
theorem dX10_offOf_80 : decode cX10_offOf 80 = .ok (.iload_n 2, 1) := bdX10_offOf_77.2.1
theorem dX10_offOf_81 : decode cX10_offOf 81 = .ok (.ireturn, 1) := bdX10_offOf_77.2.2
set_option maxHeartbeats 4000000 in
set_option maxRecDepth 100000 in
theorem k_X10_offOf (l : Launch) (dC : Nat → ClassId) (dI : Nat → Nat → Nat) (h : Nat → Nat) (cs : Nat → ClassId) (sz : Nat) (I : Nat → Int32) (L : Nat → Int64) (A : Nat → Nat → Int32) (Q : Nat → Nat → Int64) (w R M a : Nat) (hw : w ≤ 256) (hR : I 0 = nI R) (hR1 : 1 ≤ R) (hR5 : R ≤ 5) (hM : I 1 = nI M) (hM1 : 1 ≤ M) (hM4 : M ≤ 4) (ha : I 2 = nI a) (ha2 : a = 2 ∨ a = 4) : Met l yX10_offOf wsX10_offOf ({ frames := 1, cells := 0, slots := 0, locals := 24 }) (va_Pc [.ref (h 0), .int (nI w)] (xPre (dC, dI) (rW h cs I L A Q) (tysA cs) sz)) (va_Qi (fun (r : Int32) (u : RS) => (r = offF (A 3) a M w R) ∧ u = (I, L, A, Q)) (xB (dC, dI) (tysA cs) (va_A (rW h cs I L A Q) sz) (fun u : RS => rW h cs u.1 u.2.1 u.2.2.1 u.2.2.2)) (va_A (rW h cs I L A Q) sz)) 0 0 (va_A (rW h cs I L A Q) sz) := by
  refine Met.ofW (cc := cX10_offOf) (maxL := 6) (ret := (some .int)) (by decide) rfl ?_
  intro p e s m args below meth c s₁ B hml hv
  obtain ⟨rfl, hsz, hP, hK, hD0, hN⟩ := hv
  have hx := B.exec
  have hb := B.bytes
  have hr := B.returns
  have hts := atoms_spec (ws := wsX10_offOf) B.pre
  have hown : s.vm.findClass RX10 = some m.cls := findClass_of_methodNamed B.named
  have hlocks := B.notSynchronized
  subst hsz
  have hD := hD0.self (sz := s.heap.size)
  generalize hAe : va_A (rW h cs I L A Q) s.heap.size = A0 at hD ⊢
  have hA : ∀ q : Nat, s.heap.size ≤ q → A0 q := fun q h => by rw [← hAe]; exact Or.inr h
  have hl := lv_entry ([.ref (h 0), .int (nI w)]) (n := 6) (Nat.le_of_ble_eq_true rfl)
  rw [lg_entry_eq]
  generalize (lg_sl ([.ref (h 0), .int (nI w)]) ++ List.replicate (6 - (lg_sl ([.ref (h 0), .int (nI w)])).length) Slot.unset).toArray = ls at hl ⊢
  have hl : lv_has ls 6 [(0, .ref (h 0)), (1, .int (nI w))] := hl
  generalize hH : s.heap = H at hP ⊢
  have hS : va_S A0 s.heap H [] := by rw [← hH]; exact va_S.rf
  have hinX10 : ∀ w ∈ wsX100, w ∈ wsX10_offOf := by decide +kernel
  refine lv_iconst (v := nI 0) hx hb dX10_offOf_0 (by decide) ?_
  refine lv_istore_n (lv' := [(2, .int (nI 0)), (0, .ref (h 0)), (1, .int (nI w))]) hx hb dX10_offOf_1 rfl hl (by decide) rfl (fun ls hl => ?_)
  refine lv_iconst (v := nI 0) hx hb dX10_offOf_2 (by decide) ?_
  refine lv_istore_n (lv' := [(3, .int (nI 0)), (2, .int (nI 0)), (0, .ref (h 0)), (1, .int (nI w))]) hx hb dX10_offOf_3 rfl hl (by decide) rfl (fun ls hl => ?_)
  have cut_4 : ∀ (nf : Nat) (k : Nat), (R - k) < nf → (k ≤ R) → ∀ (H : Heap) (locs : List Loc) (ls : Array Slot), va_P (dC, dI) vwCl (rW h cs I L A Q) H → va_D A0 (rW h cs I L A Q) → va_S A0 s.heap H locs → lv_has ls 6 [(0, .ref (h 0)), (1, .int (nI w)), (2, .int (offF (A 3) a M w k)), (3, .int (nI k))] → W p l e (headSpec wsX10_offOf ({ frames := 1, cells := 0, slots := 0, locals := 24 })).room s m ([.ref (h 0), .int (nI w)] : List Value).toArray below meth c H locs 0 0 (MQ below (va_Qi (fun (r : Int32) (u : RS) => (r = offF (A 3) a M w R) ∧ u = (I, L, A, Q)) (xB (dC, dI) (tysA cs) A0 (fun u : RS => rW h cs u.1 u.2.1 u.2.2.1 u.2.2.2)) A0) ([.ref (h 0), .int (nI w)] : List Value).toArray s 0 0 A0) (F0 m 4 ls []) := by
    intro nf
    induction nf with
    | zero => intro k hm; exact absurd hm (Nat.not_lt_zero _)
    | succ nf ih_4 =>
      intro k hm_4 hk_4 H locs ls hP hD hS hl
      refine lv_iload_n hx hb dX10_offOf_4 rfl (lv_at hl 3 rfl) ?_
      refine lv_aload_n hx hb dX10_offOf_5 rfl (lv_at hl 0 rfl) ?_
      refine va_get (D := (dC, dI)) (ci := 10) (v := .int (I 0)) (C := RX10) (T := TX10) (N := 28) hx hb hts hinX10 hown hK hP 0 rfl rfl 0 (by decide) (hts (.fieldLink RX10 7 "MixedWordsModel" "rows" "I") (by decide +kernel)) (fun _ h9 => h9) rfl dX10_offOf_6 ?_
      refine xt_i (y := nI R) (hR) ?_
      refine xn_ge (tgt := 80) hx hb dX10_offOf_9 (by decide) (by omega) (by omega) (fun c_9_0 => ?_) (fun c_9_0 => ?_)
      · skip
        refine lv_iload_n hx hb dX10_offOf_80 rfl (lv_at hl 2 rfl) ?_
        exact xr_i (v := (offF (A 3) a M w k)) hx hb hr hlocks hK hS dX10_offOf_81 (I, L, A, Q) ⟨(by rw [show R = k by omega]), rfl⟩ hP hD
      · skip
        refine lv_aload_n hx hb dX10_offOf_12 rfl (lv_at hl 0 rfl) ?_
        refine va_get (D := (dC, dI)) (ci := 10) (v := .ref (h 3)) (C := RX10) (T := TX10) (N := 28) hx hb hts hinX10 hown hK hP 0 rfl rfl 3 (by decide) (hts (.fieldLink RX10 19 "MixedWordsModel" "told" "[I") (by decide +kernel)) (fun _ h9 => h9) rfl dX10_offOf_13 ?_
        refine lv_iconst (v := nI 5) hx hb dX10_offOf_16 (by decide) ?_
        refine lv_iload_n hx hb dX10_offOf_17 rfl (lv_at hl 3 rfl) ?_
        refine lv_imul hx hb dX10_offOf_18 ?_
        refine xt_i (y := nI (5 * k)) (pk_mul _ _) ?_
        refine lv_iconst (v := nI 4) hx hb dX10_offOf_19 (by decide) ?_
        refine lv_iadd hx hb dX10_offOf_20 ?_
        refine xt_i (y := nI ((5 * k) + 4)) (nI_add _ _) ?_
        refine xa_iald hx hb hK hP 1 0 rfl rfl (by omega) (by decide) dX10_offOf_21 ?_
        refine lv_istore (lv' := [(4, .int (A 3 ((5 * k) + 4))), (0, .ref (h 0)), (1, .int (nI w)), (2, .int (offF (A 3) a M w k)), (3, .int (nI k))]) hx hb dX10_offOf_22 hl (by decide) rfl (fun ls hl => ?_)
        refine lv_iconst (v := nI 0) hx hb dX10_offOf_24 (by decide) ?_
        refine lv_istore (lv' := [(5, .int (nI 0)), (4, .int (A 3 ((5 * k) + 4))), (0, .ref (h 0)), (1, .int (nI w)), (2, .int (offF (A 3) a M w k)), (3, .int (nI k))]) hx hb dX10_offOf_25 hl (by decide) rfl (fun ls hl => ?_)
        have cut_27 : ∀ (nf : Nat) (c5 : Nat), (M - c5) < nf → (c5 ≤ M) → ∀ (H : Heap) (locs : List Loc) (ls : Array Slot), va_P (dC, dI) vwCl (rW h cs I L A Q) H → va_D A0 (rW h cs I L A Q) → va_S A0 s.heap H locs → lv_has ls 6 [(0, .ref (h 0)), (1, .int (nI w)), (2, .int (offF (A 3) a M w k)), (3, .int (nI k)), (4, .int (leftF (A 3) a M w k c5)), (5, .int (nI c5))] → W p l e (headSpec wsX10_offOf ({ frames := 1, cells := 0, slots := 0, locals := 24 })).room s m ([.ref (h 0), .int (nI w)] : List Value).toArray below meth c H locs 0 0 (MQ below (va_Qi (fun (r : Int32) (u : RS) => (r = offF (A 3) a M w R) ∧ u = (I, L, A, Q)) (xB (dC, dI) (tysA cs) A0 (fun u : RS => rW h cs u.1 u.2.1 u.2.2.1 u.2.2.2)) A0) ([.ref (h 0), .int (nI w)] : List Value).toArray s 0 0 A0) (F0 m 27 ls []) := by
          intro nf
          induction nf with
          | zero => intro c5 hm; exact absurd hm (Nat.not_lt_zero _)
          | succ nf ih_27 =>
            intro c5 hm_27 hc_27 H locs ls hP hD hS hl
            refine lv_iload hx hb dX10_offOf_27 (lv_at hl 5 rfl) ?_
            refine lv_aload_n hx hb dX10_offOf_29 rfl (lv_at hl 0 rfl) ?_
            refine va_get (D := (dC, dI)) (ci := 10) (v := .int (I 1)) (C := RX10) (T := TX10) (N := 28) hx hb hts hinX10 hown hK hP 0 rfl rfl 1 (by decide) (hts (.fieldLink RX10 13 "MixedWordsModel" "columns" "I") (by decide +kernel)) (fun _ h9 => h9) rfl dX10_offOf_30 ?_
            refine xt_i (y := nI M) (hM) ?_
            refine xn_ge (tgt := 66) hx hb dX10_offOf_33 (by decide) (by omega) (by omega) (fun c_33_1 => ?_) (fun c_33_1 => ?_)
            · skip
              rw [show c5 = M by omega] at hl
              refine lv_iload_n hx hb dX10_offOf_66 rfl (lv_at hl 2 rfl) ?_
              refine lv_iload hx hb dX10_offOf_67 (lv_at hl 4 rfl) ?_
              refine lv_iload hx hb dX10_offOf_69 (lv_at hl 4 rfl) ?_
              refine lv_imul hx hb dX10_offOf_71 ?_
              refine lv_iadd hx hb dX10_offOf_72 ?_
              refine lv_istore_n (lv' := [(2, .int ((offF (A 3) a M w k) + ((leftF (A 3) a M w k M) * (leftF (A 3) a M w k M)))), (0, .ref (h 0)), (1, .int (nI w)), (3, .int (nI k)), (4, .int (leftF (A 3) a M w k M)), (5, .int (nI M))]) hx hb dX10_offOf_73 rfl hl (by decide) rfl (fun ls hl => ?_)
              refine lv_iinc (v := nI (k + 1)) (lv' := [(3, .int (nI (k + 1))), (2, .int ((offF (A 3) a M w k) + ((leftF (A 3) a M w k M) * (leftF (A 3) a M w k M)))), (0, .ref (h 0)), (1, .int (nI w)), (4, .int (leftF (A 3) a M w k M)), (5, .int (nI M))]) hx hb dX10_offOf_74 hl (k := 3) rfl (nI_1 _) (by decide) rfl (fun ls hl => ?_)
              refine lv_goto (tgt := 4) hx hb dX10_offOf_77 (by decide) ?_
              exact ih_4 (k + 1) (by omega) (by first | assumption | omega) _ _ _ hP hD hS (lv_sub hl [2, 3, 1, 0] rfl)
            · skip
              refine lv_iload hx hb dX10_offOf_36 (lv_at hl 4 rfl) ?_
              refine lv_aload_n hx hb dX10_offOf_38 rfl (lv_at hl 0 rfl) ?_
              refine va_get (D := (dC, dI)) (ci := 10) (v := .ref (h 3)) (C := RX10) (T := TX10) (N := 28) hx hb hts hinX10 hown hK hP 0 rfl rfl 3 (by decide) (hts (.fieldLink RX10 19 "MixedWordsModel" "told" "[I") (by decide +kernel)) (fun _ h9 => h9) rfl dX10_offOf_39 ?_
              refine lv_iconst (v := nI 5) hx hb dX10_offOf_42 (by decide) ?_
              refine lv_iload_n hx hb dX10_offOf_43 rfl (lv_at hl 3 rfl) ?_
              refine lv_imul hx hb dX10_offOf_44 ?_
              refine xt_i (y := nI (5 * k)) (pk_mul _ _) ?_
              refine lv_iload hx hb dX10_offOf_45 (lv_at hl 5 rfl) ?_
              refine lv_iadd hx hb dX10_offOf_47 ?_
              refine xt_i (y := nI ((5 * k) + c5)) (nI_add _ _) ?_
              refine xa_iald hx hb hK hP 1 0 rfl rfl (by omega) (by decide) dX10_offOf_48 ?_
              refine lv_aload_n hx hb dX10_offOf_49 rfl (lv_at hl 0 rfl) ?_
              refine lv_iload_n hx hb dX10_offOf_50 rfl (lv_at hl 1 rfl) ?_
              refine lv_iload hx hb dX10_offOf_51 (lv_at hl 5 rfl) ?_
              refine xj_i (wc := (rW h cs I L A Q)) (wr := ([] : va_W)) hP hD hS hA [0, 1, 2, 3, 4, 5, 6, 7, 8, 9, 10, 11, 12, 13, 14, 15, 16] [] rfl rfl (by decide +kernel) (by decide +kernel) (va_runV (As := [.int (nI w), .int (nI c5)]) (rest := [.int (A 3 ((5 * k) + c5)), .int (leftF (A 3) a M w k c5)]) ⟨hx, hb, hml, hown, hts⟩ (k_X10_letter l dC dI h cs H.size I L A Q w c5 M a (by first | assumption | omega | exact hw) (by first | assumption | omega) hM (by first | assumption | omega | exact hM1) (by first | assumption | omega | exact hM4) ha (by first | assumption | omega | exact ha2)) (cwV 2 hts gX10_offOf_X10_letter rfl rfl rfl (by decide +kernel) ⟨Nat.le_of_ble_eq_true rfl, Nat.le_of_ble_eq_true rfl⟩) (xpV (wc := (rW h cs I L A Q)) hP hD hK hN [0, 1, 2, 3, 4, 5, 6, 7, 8, 9, 10, 11, 12, 13, 14, 15, 16] rfl (by decide) 0 (ci := 10) rfl rfl _) rfl rfl hl.1 rfl (lv_room (Nat.le_of_ble_eq_true rfl)) dX10_offOf_53 ⟨Nat.zero_le _, Nat.zero_le _⟩) (fun r_4 u_3 H locs hw hP hD hS => ?_)
              obtain ⟨hf_5, rfl⟩ := hw
              have hP : va_P (dC, dI) vwCl (rW h cs I L A Q) H := hP
              have hD : va_D A0 (rW h cs I L A Q) := hD
              obtain rfl := hf_5
              refine lv_imul hx hb dX10_offOf_56 ?_
              refine lv_isub hx hb dX10_offOf_57 ?_
              refine lv_istore (lv' := [(4, .int ((leftF (A 3) a M w k c5) - ((A 3 ((5 * k) + c5)) * (lettr a (w / a ^ (M - 1 - c5)))))), (0, .ref (h 0)), (1, .int (nI w)), (2, .int (offF (A 3) a M w k)), (3, .int (nI k)), (5, .int (nI c5))]) hx hb dX10_offOf_58 hl (by decide) rfl (fun ls hl => ?_)
              refine lv_iinc (v := nI (c5 + 1)) (lv' := [(5, .int (nI (c5 + 1))), (4, .int ((leftF (A 3) a M w k c5) - ((A 3 ((5 * k) + c5)) * (lettr a (w / a ^ (M - 1 - c5)))))), (0, .ref (h 0)), (1, .int (nI w)), (2, .int (offF (A 3) a M w k)), (3, .int (nI k))]) hx hb dX10_offOf_60 hl (k := 5) rfl (nI_1 _) (by decide) rfl (fun ls hl => ?_)
              refine lv_goto (tgt := 27) hx hb dX10_offOf_63 (by decide) ?_
              exact ih_27 (c5 + 1) (by omega) (by first | assumption | omega) _ _ _ hP hD hS (lv_sub hl [2, 3, 4, 5, 1, 0] rfl)
        exact cut_27 _ 0 (Nat.lt_succ_self _) (by first | assumption | omega) _ _ _ hP hD hS (lv_sub hl [2, 3, 4, 5, 1, 0] rfl)
  exact cut_4 _ 0 (Nat.lt_succ_self _) (by first | assumption | omega) _ _ _ hP hD hS (lv_sub hl [2, 3, 1, 0] rfl)
set_option maxRecDepth 20000 in
theorem ggX10_off_X10_isWord : GoodIn wsX10_off wsX10_isWord := goodIn_r _ [5, 6, 7, 8, 4, 9, 10, 11, 12, 13, 14, 25, 26, 27, 28, 29, 30, 31, 32, 33, 34, 35, 36, 37, 38, 39, 40, 41, 42, 43, 44, 45, 46, 47, 48, 49, 50, 51, 52] rfl (by decide +kernel)
set_option maxRecDepth 20000 in
theorem gX10_off_X10_isWord : GoodIn wsX10_off (wsV RX10 159 RX10 yX10_isWord wsX10_isWord) := goodIn_app (goodIn_of _ (by decide +kernel)) ggX10_off_X10_isWord
set_option maxRecDepth 20000 in
theorem ggX10_off_X10_offOf : GoodIn wsX10_off wsX10_offOf := goodIn_r _ [18, 19, 20, 10, 21, 22, 23, 4, 24, 11, 25, 26, 27, 28, 29, 30, 31, 32, 33, 34, 35, 36, 37, 38, 39, 40, 41, 42, 43, 44, 45, 46, 47, 48, 49, 50, 51, 52] rfl (by decide +kernel)
set_option maxRecDepth 20000 in
theorem gX10_off_X10_offOf : GoodIn wsX10_off (wsV RX10 162 RX10 yX10_offOf wsX10_offOf) := goodIn_app (goodIn_of _ (by decide +kernel)) ggX10_off_X10_offOf
theorem bdX10_off_0 : (decode cX10_off 0 = .ok (.aload_n 0, 1)) ∧ (decode cX10_off 1 = .ok (.iload_n 1, 1)) ∧ (decode cX10_off 2 = .ok (.invokevirtual 159, 3)) ∧ (decode cX10_off 5 = .ok (.ifCond .eq 11, 3)) ∧ (decode cX10_off 8 = .ok (.aload_n 0, 1)) ∧ (decode cX10_off 9 = .ok (.iload_n 1, 1)) ∧ (decode cX10_off 10 = .ok (.invokevirtual 162, 3)) ∧ (decode cX10_off 13 = .ok (.goto 4, 3)) ∧ (decode cX10_off 16 = .ok (.iconst (-1), 1)) ∧ (decode cX10_off 17 = .ok (.ireturn, 1)) := by decide +kernel
theorem dX10_off_0 : decode cX10_off 0 = .ok (.aload_n 0, 1) := bdX10_off_0.1
theorem dX10_off_1 : decode cX10_off 1 = .ok (.iload_n 1, 1) := bdX10_off_0.2.1
theorem dX10_off_2 : decode cX10_off 2 = .ok (.invokevirtual 159, 3) := bdX10_off_0.2.2.1
theorem dX10_off_5 : decode cX10_off 5 = .ok (.ifCond .eq 11, 3) := bdX10_off_0.2.2.2.1
theorem dX10_off_8 : decode cX10_off 8 = .ok (.aload_n 0, 1) := bdX10_off_0.2.2.2.2.1
theorem dX10_off_9 : decode cX10_off 9 = .ok (.iload_n 1, 1) := bdX10_off_0.2.2.2.2.2.1
theorem dX10_off_10 : decode cX10_off 10 = .ok (.invokevirtual 162, 3) := bdX10_off_0.2.2.2.2.2.2.1
theorem dX10_off_13 : decode cX10_off 13 = .ok (.goto 4, 3) := bdX10_off_0.2.2.2.2.2.2.2.1
theorem dX10_off_16 : decode cX10_off 16 = .ok (.iconst (-1), 1) := bdX10_off_0.2.2.2.2.2.2.2.2.1
theorem dX10_off_17 : decode cX10_off 17 = .ok (.ireturn, 1) := bdX10_off_0.2.2.2.2.2.2.2.2.2
set_option maxHeartbeats 4000000 in
set_option maxRecDepth 100000 in
theorem k_X10_off (l : Launch) (dC : Nat → ClassId) (dI : Nat → Nat → Nat) (h : Nat → Nat) (cs : Nat → ClassId) (sz : Nat) (I : Nat → Int32) (L : Nat → Int64) (A : Nat → Nat → Int32) (Q : Nat → Nat → Int64) (x : Int32) (R M a : Nat) (hR : I 0 = nI R) (hR1 : 1 ≤ R) (hR5 : R ≤ 5) (hM : I 1 = nI M) (hM1 : 1 ≤ M) (hM4 : M ≤ 4) (ha : I 2 = nI a) (ha2 : a = 2 ∨ a = 4) : Met l yX10_off wsX10_off ({ frames := 2, cells := 0, slots := 0, locals := 49 }) (va_Pc [.ref (h 0), .int x] (xPre (dC, dI) (rW h cs I L A Q) (tysA cs) sz)) (va_Qi (fun (r : Int32) (u : RS) => ((∃ i : Nat, i < a ^ M ∧ x = nI i ∧ r = offF (A 3) a M i R) ∨ (r = -1 ∧ ∀ i : Nat, i < a ^ M → x ≠ nI i)) ∧ u = (I, L, A, Q)) (xB (dC, dI) (tysA cs) (va_A (rW h cs I L A Q) sz) (fun u : RS => rW h cs u.1 u.2.1 u.2.2.1 u.2.2.2)) (va_A (rW h cs I L A Q) sz)) 0 0 (va_A (rW h cs I L A Q) sz) := by
  refine Met.ofW (cc := cX10_off) (maxL := 2) (ret := (some .int)) (by decide) rfl ?_
  intro p e s m args below meth c s₁ B hml hv
  obtain ⟨rfl, hsz, hP, hK, hD0, hN⟩ := hv
  have hx := B.exec
  have hb := B.bytes
  have hr := B.returns
  have hts := atoms_spec (ws := wsX10_off) B.pre
  have hown : s.vm.findClass RX10 = some m.cls := findClass_of_methodNamed B.named
  have hlocks := B.notSynchronized
  subst hsz
  have hD := hD0.self (sz := s.heap.size)
  generalize hAe : va_A (rW h cs I L A Q) s.heap.size = A0 at hD ⊢
  have hA : ∀ q : Nat, s.heap.size ≤ q → A0 q := fun q h => by rw [← hAe]; exact Or.inr h
  have hl := lv_entry ([.ref (h 0), .int x]) (n := 2) (Nat.le_of_ble_eq_true rfl)
  rw [lg_entry_eq]
  generalize (lg_sl ([.ref (h 0), .int x]) ++ List.replicate (2 - (lg_sl ([.ref (h 0), .int x])).length) Slot.unset).toArray = ls at hl ⊢
  have hl : lv_has ls 2 [(0, .ref (h 0)), (1, .int x)] := hl
  generalize hH : s.heap = H at hP ⊢
  have hS : va_S A0 s.heap H [] := by rw [← hH]; exact va_S.rf
  have hpw : a ^ M ≤ 256 := pw_le ha2 hM4
  have hpw1 : 1 ≤ a ^ M := pw_pos ha2
  refine lv_aload_n hx hb dX10_off_0 rfl (lv_at hl 0 rfl) ?_
  refine lv_iload_n hx hb dX10_off_1 rfl (lv_at hl 1 rfl) ?_
  refine xj_i (wc := (rW h cs I L A Q)) (wr := ([] : va_W)) hP hD hS hA [0, 1, 2, 3, 4, 5, 6, 7, 8, 9, 10, 11, 12, 13, 14, 15, 16] [] rfl rfl (by decide +kernel) (by decide +kernel) (va_runV (As := [.int x]) (rest := []) ⟨hx, hb, hml, hown, hts⟩ (k_X10_isWord l dC dI h cs H.size I L A Q x M a hM (by first | assumption | omega | exact hM1) (by first | assumption | omega | exact hM4) ha (by first | assumption | omega | exact ha2)) (cwV 1 hts gX10_off_X10_isWord rfl rfl rfl (by decide +kernel) ⟨Nat.le_of_ble_eq_true rfl, Nat.le_of_ble_eq_true rfl⟩) (xpV (wc := (rW h cs I L A Q)) hP hD hK hN [0, 1, 2, 3, 4, 5, 6, 7, 8, 9, 10, 11, 12, 13, 14, 15, 16] rfl (by decide) 0 (ci := 10) rfl rfl _) rfl rfl hl.1 rfl (lv_room (Nat.le_of_ble_eq_true rfl)) dX10_off_2 ⟨Nat.zero_le _, Nat.zero_le _⟩) (fun r_2 u_1 H locs hw hP hD hS => ?_)
  obtain ⟨hf_3, rfl⟩ := hw
  have hP : va_P (dC, dI) vwCl (rW h cs I L A Q) H := hP
  have hD : va_D A0 (rW h cs I L A Q) := hD
  rcases hf_3 with ⟨rfl, i_4, hi_5, hx_6⟩ | ⟨rfl, hn_7⟩
  · skip
    rw [hx_6] at hl
    refine xs_eqF (tgt := 16) hx hb dX10_off_5 (by decide) (by decide) ?_
    refine lv_aload_n hx hb dX10_off_8 rfl (lv_at hl 0 rfl) ?_
    refine lv_iload_n hx hb dX10_off_9 rfl (lv_at hl 1 rfl) ?_
    refine xj_i (wc := (rW h cs I L A Q)) (wr := ([] : va_W)) hP hD hS hA [0, 1, 2, 3, 4, 5, 6, 7, 8, 9, 10, 11, 12, 13, 14, 15, 16] [] rfl rfl (by decide +kernel) (by decide +kernel) (va_runV (As := [.int (nI i_4)]) (rest := []) ⟨hx, hb, hml, hown, hts⟩ (k_X10_offOf l dC dI h cs H.size I L A Q i_4 R M a (by first | assumption | omega) hR (by first | assumption | omega | exact hR1) (by first | assumption | omega | exact hR5) hM (by first | assumption | omega | exact hM1) (by first | assumption | omega | exact hM4) ha (by first | assumption | omega | exact ha2)) (cwV 1 hts gX10_off_X10_offOf rfl rfl rfl (by decide +kernel) ⟨Nat.le_of_ble_eq_true rfl, Nat.le_of_ble_eq_true rfl⟩) (xpV (wc := (rW h cs I L A Q)) hP hD hK hN [0, 1, 2, 3, 4, 5, 6, 7, 8, 9, 10, 11, 12, 13, 14, 15, 16] rfl (by decide) 0 (ci := 10) rfl rfl _) rfl rfl hl.1 rfl (lv_room (Nat.le_of_ble_eq_true rfl)) dX10_off_10 ⟨Nat.zero_le _, Nat.zero_le _⟩) (fun r_10 u_9 H locs hw hP hD hS => ?_)
    obtain ⟨hf_11, rfl⟩ := hw
    have hP : va_P (dC, dI) vwCl (rW h cs I L A Q) H := hP
    have hD : va_D A0 (rW h cs I L A Q) := hD
    obtain rfl := hf_11
    refine lv_goto (tgt := 17) hx hb dX10_off_13 (by decide) ?_
    exact xr_i (v := (offF (A 3) a M i_4 R)) hx hb hr hlocks hK hS dX10_off_17 (I, L, A, Q) ⟨(Or.inl ⟨i_4, hi_5, hx_6, rfl⟩), rfl⟩ hP hD
  · skip
    refine xs_eqT (tgt := 16) hx hb dX10_off_5 (by decide) (by decide) ?_
    refine lv_iconst (v := (-1)) hx hb dX10_off_16 (by decide) ?_
    exact xr_i (v := (-1)) hx hb hr hlocks hK hS dX10_off_17 (I, L, A, Q) ⟨(Or.inr ⟨rfl, hn_7⟩), rfl⟩ hP hD
set_option maxRecDepth 20000 in
theorem ggX10_offAll_X10_words : GoodIn wsX10_offAll wsX10_words := goodIn_r _ [6, 7, 8, 19, 20, 21, 22, 23, 24, 25, 26, 27, 28, 29, 30, 31, 32, 33, 34, 35, 36, 37, 38, 39, 40, 41, 42, 43, 44, 45, 46] rfl (by decide +kernel)
set_option maxRecDepth 20000 in
theorem gX10_offAll_X10_words : GoodIn wsX10_offAll (wsV RX10 153 RX10 yX10_words wsX10_words) := goodIn_app (goodIn_of _ (by decide +kernel)) ggX10_offAll_X10_words
set_option maxRecDepth 20000 in
theorem ggX10_offAll_X10_offOf : GoodIn wsX10_offAll wsX10_offOf := goodIn_r _ [12, 13, 14, 7, 15, 16, 17, 5, 18, 8, 19, 20, 21, 22, 23, 24, 25, 26, 27, 28, 29, 30, 31, 32, 33, 34, 35, 36, 37, 38, 39, 40, 41, 42, 43, 44, 45, 46] rfl (by decide +kernel)
set_option maxRecDepth 20000 in
theorem gX10_offAll_X10_offOf : GoodIn wsX10_offAll (wsV RX10 162 RX10 yX10_offOf wsX10_offOf) := goodIn_app (goodIn_of _ (by decide +kernel)) ggX10_offAll_X10_offOf
theorem bdX10_offAll_0 : (decode cX10_offAll 0 = .ok (.iconst 0, 1)) ∧ (decode cX10_offAll 1 = .ok (.istore_n 1, 1)) ∧ (decode cX10_offAll 2 = .ok (.iload_n 1, 1)) ∧ (decode cX10_offAll 3 = .ok (.aload_n 0, 1)) ∧ (decode cX10_offAll 4 = .ok (.invokevirtual 153, 3)) ∧ (decode cX10_offAll 7 = .ok (.if_icmp .ge 20, 3)) ∧ (decode cX10_offAll 10 = .ok (.aload_n 0, 1)) ∧ (decode cX10_offAll 11 = .ok (.getfield 38, 3)) ∧ (decode cX10_offAll 14 = .ok (.iload_n 1, 1)) ∧ (decode cX10_offAll 15 = .ok (.aload_n 0, 1)) ∧ (decode cX10_offAll 16 = .ok (.iload_n 1, 1)) ∧ (decode cX10_offAll 17 = .ok (.invokevirtual 162, 3)) ∧ (decode cX10_offAll 20 = .ok (.iastore, 1)) ∧ (decode cX10_offAll 21 = .ok (.iinc 1 1, 3)) ∧ (decode cX10_offAll 24 = .ok (.goto (-22), 3)) ∧ (decode cX10_offAll 27 = .ok (.return_, 1)) := by decide +kernel
theorem dX10_offAll_0 : decode cX10_offAll 0 = .ok (.iconst 0, 1) := bdX10_offAll_0.1
theorem dX10_offAll_1 : decode cX10_offAll 1 = .ok (.istore_n 1, 1) := bdX10_offAll_0.2.1
theorem dX10_offAll_2 : decode cX10_offAll 2 = .ok (.iload_n 1, 1) := bdX10_offAll_0.2.2.1
theorem dX10_offAll_3 : decode cX10_offAll 3 = .ok (.aload_n 0, 1) := bdX10_offAll_0.2.2.2.1
theorem dX10_offAll_4 : decode cX10_offAll 4 = .ok (.invokevirtual 153, 3) := bdX10_offAll_0.2.2.2.2.1
theorem dX10_offAll_7 : decode cX10_offAll 7 = .ok (.if_icmp .ge 20, 3) := bdX10_offAll_0.2.2.2.2.2.1
theorem dX10_offAll_10 : decode cX10_offAll 10 = .ok (.aload_n 0, 1) := bdX10_offAll_0.2.2.2.2.2.2.1
theorem dX10_offAll_11 : decode cX10_offAll 11 = .ok (.getfield 38, 3) := bdX10_offAll_0.2.2.2.2.2.2.2.1
theorem dX10_offAll_14 : decode cX10_offAll 14 = .ok (.iload_n 1, 1) := bdX10_offAll_0.2.2.2.2.2.2.2.2.1
theorem dX10_offAll_15 : decode cX10_offAll 15 = .ok (.aload_n 0, 1) := bdX10_offAll_0.2.2.2.2.2.2.2.2.2.1
theorem dX10_offAll_16 : decode cX10_offAll 16 = .ok (.iload_n 1, 1) := bdX10_offAll_0.2.2.2.2.2.2.2.2.2.2.1
theorem dX10_offAll_17 : decode cX10_offAll 17 = .ok (.invokevirtual 162, 3) := bdX10_offAll_0.2.2.2.2.2.2.2.2.2.2.2.1
theorem dX10_offAll_20 : decode cX10_offAll 20 = .ok (.iastore, 1) := bdX10_offAll_0.2.2.2.2.2.2.2.2.2.2.2.2.1
theorem dX10_offAll_21 : decode cX10_offAll 21 = .ok (.iinc 1 1, 3) := bdX10_offAll_0.2.2.2.2.2.2.2.2.2.2.2.2.2.1
theorem dX10_offAll_24 : decode cX10_offAll 24 = .ok (.goto (-22), 3) := bdX10_offAll_0.2.2.2.2.2.2.2.2.2.2.2.2.2.2.1
theorem dX10_offAll_27 : decode cX10_offAll 27 = .ok (.return_, 1) := bdX10_offAll_0.2.2.2.2.2.2.2.2.2.2.2.2.2.2.2
set_option maxHeartbeats 4000000 in
set_option maxRecDepth 100000 in
theorem k_X10_offAll (l : Launch) (dC : Nat → ClassId) (dI : Nat → Nat → Nat) (h : Nat → Nat) (cs : Nat → ClassId) (sz : Nat) (I : Nat → Int32) (L : Nat → Int64) (A : Nat → Nat → Int32) (Q : Nat → Nat → Int64) (R M a : Nat) (hR : I 0 = nI R) (hR1 : 1 ≤ R) (hR5 : R ≤ 5) (hM : I 1 = nI M) (hM1 : 1 ≤ M) (hM4 : M ≤ 4) (ha : I 2 = nI a) (ha2 : a = 2 ∨ a = 4) : Met l yX10_offAll wsX10_offAll ({ frames := 2, cells := 0, slots := 0, locals := 49 }) (va_Pc [.ref (h 0)] (xPre (dC, dI) (rW h cs I L A Q) (tysA cs) sz)) (va_Qv (fun (u : RS) => ∃ f16 : Nat → Int32, (∀ t : Nat, t < a ^ M → f16 t = offF (A 3) a M t R) ∧ u = (I, L, (va_up A 16 f16), Q)) (xB (dC, dI) (tysA cs) (va_A (rW h cs I L A Q) sz) (fun u : RS => rW h cs u.1 u.2.1 u.2.2.1 u.2.2.2)) (va_A (rW h cs I L A Q) sz)) 0 0 (va_A (rW h cs I L A Q) sz) := by
  refine Met.ofW (cc := cX10_offAll) (maxL := 2) (ret := none) (by decide) rfl ?_
  intro p e s m args below meth c s₁ B hml hv
  obtain ⟨rfl, hsz, hP, hK, hD0, hN⟩ := hv
  have hx := B.exec
  have hb := B.bytes
  have hr := B.returns
  have hts := atoms_spec (ws := wsX10_offAll) B.pre
  have hown : s.vm.findClass RX10 = some m.cls := findClass_of_methodNamed B.named
  have hlocks := B.notSynchronized
  subst hsz
  have hD := hD0.self (sz := s.heap.size)
  generalize hAe : va_A (rW h cs I L A Q) s.heap.size = A0 at hD ⊢
  have hA : ∀ q : Nat, s.heap.size ≤ q → A0 q := fun q h => by rw [← hAe]; exact Or.inr h
  have hl := lv_entry ([.ref (h 0)]) (n := 2) (Nat.le_of_ble_eq_true rfl)
  rw [lg_entry_eq]
  generalize (lg_sl ([.ref (h 0)]) ++ List.replicate (2 - (lg_sl ([.ref (h 0)])).length) Slot.unset).toArray = ls at hl ⊢
  have hl : lv_has ls 2 [(0, .ref (h 0))] := hl
  generalize hH : s.heap = H at hP ⊢
  have hS : va_S A0 s.heap H [] := by rw [← hH]; exact va_S.rf
  have hinX10 : ∀ w ∈ wsX100, w ∈ wsX10_offAll := by decide +kernel
  have hpw : a ^ M ≤ 256 := pw_le ha2 hM4
  have hpw1 : 1 ≤ a ^ M := pw_pos ha2
  refine lv_iconst (v := nI 0) hx hb dX10_offAll_0 (by decide) ?_
  refine lv_istore_n (lv' := [(1, .int (nI 0)), (0, .ref (h 0))]) hx hb dX10_offAll_1 rfl hl (by decide) rfl (fun ls hl => ?_)
  have cut_2 : ∀ (nf : Nat) (k : Nat) (g : Nat → Int32), (a ^ M - k) < nf → (k ≤ a ^ M) → (∀ t : Nat, t < k → g t = offF (A 3) a M t R) → ∀ (H : Heap) (locs : List Loc) (ls : Array Slot), va_P (dC, dI) vwCl (rW h cs I L (va_up A 16 g) Q) H → va_D A0 (rW h cs I L (va_up A 16 g) Q) → va_S A0 s.heap H locs → lv_has ls 2 [(0, .ref (h 0)), (1, .int (nI k))] → W p l e (headSpec wsX10_offAll ({ frames := 2, cells := 0, slots := 0, locals := 49 })).room s m ([.ref (h 0)] : List Value).toArray below meth c H locs 0 0 (MQ below (va_Qv (fun (u : RS) => ∃ f16 : Nat → Int32, (∀ t : Nat, t < a ^ M → f16 t = offF (A 3) a M t R) ∧ u = (I, L, (va_up A 16 f16), Q)) (xB (dC, dI) (tysA cs) A0 (fun u : RS => rW h cs u.1 u.2.1 u.2.2.1 u.2.2.2)) A0) ([.ref (h 0)] : List Value).toArray s 0 0 A0) (F0 m 2 ls []) := by
    intro nf
    induction nf with
    | zero => intro k g hm; exact absurd hm (Nat.not_lt_zero _)
    | succ nf ih_2 =>
      intro k g hm_2 hk_2 hg_2 H locs ls hP hD hS hl
      refine lv_iload_n hx hb dX10_offAll_2 rfl (lv_at hl 1 rfl) ?_
      refine lv_aload_n hx hb dX10_offAll_3 rfl (lv_at hl 0 rfl) ?_
      refine xj_i (wc := (rW h cs I L (va_up A 16 g) Q)) (wr := ([] : va_W)) hP hD hS hA [0, 1, 2, 3, 4, 5, 6, 7, 8, 9, 10, 11, 12, 13, 14, 15, 16] [] rfl rfl (by decide +kernel) (by decide +kernel) (va_runV (As := []) (rest := [.int (nI k)]) ⟨hx, hb, hml, hown, hts⟩ (k_X10_words l dC dI h cs H.size I L (va_up A 16 g) Q M a hM (by first | assumption | omega | exact hM1) (by first | assumption | omega | exact hM4) ha (by first | assumption | omega | exact ha2)) (cwV 0 hts gX10_offAll_X10_words rfl rfl rfl (by decide +kernel) ⟨Nat.le_of_ble_eq_true rfl, Nat.le_of_ble_eq_true rfl⟩) (xpV (wc := (rW h cs I L (va_up A 16 g) Q)) hP hD hK hN [0, 1, 2, 3, 4, 5, 6, 7, 8, 9, 10, 11, 12, 13, 14, 15, 16] rfl (by decide) 0 (ci := 10) rfl rfl _) rfl rfl hl.1 rfl (lv_room (Nat.le_of_ble_eq_true rfl)) dX10_offAll_4 ⟨Nat.zero_le _, Nat.zero_le _⟩) (fun r_2 u_1 H locs hw hP hD hS => ?_)
      obtain ⟨hf_3, rfl⟩ := hw
      have hP : va_P (dC, dI) vwCl (rW h cs I L (va_up A 16 g) Q) H := hP
      have hD : va_D A0 (rW h cs I L (va_up A 16 g) Q) := hD
      obtain rfl := hf_3
      refine xn_ge (tgt := 27) hx hb dX10_offAll_7 (by decide) (by omega) (by omega) (fun c_7_3 => ?_) (fun c_7_3 => ?_)
      · skip
        exact xr_v hx hb hr hlocks hK hS dX10_offAll_27 (I, L, (va_up A 16 g), Q) ⟨g, (fun t ht => hg_2 t (by omega)), rfl⟩ hP hD
      · skip
        refine lv_aload_n hx hb dX10_offAll_10 rfl (lv_at hl 0 rfl) ?_
        refine va_get (D := (dC, dI)) (ci := 10) (v := .ref (h 16)) (C := RX10) (T := TX10) (N := 28) hx hb hts hinX10 hown hK hP 0 rfl rfl 16 (by decide) (hts (.fieldLink RX10 38 "MixedWordsModel" "offs" "[I") (by decide +kernel)) (fun _ h9 => h9) rfl dX10_offAll_11 ?_
        refine lv_iload_n hx hb dX10_offAll_14 rfl (lv_at hl 1 rfl) ?_
        refine lv_aload_n hx hb dX10_offAll_15 rfl (lv_at hl 0 rfl) ?_
        refine lv_iload_n hx hb dX10_offAll_16 rfl (lv_at hl 1 rfl) ?_
        refine xj_i (wc := (rW h cs I L (va_up A 16 g) Q)) (wr := ([] : va_W)) hP hD hS hA [0, 1, 2, 3, 4, 5, 6, 7, 8, 9, 10, 11, 12, 13, 14, 15, 16] [] rfl rfl (by decide +kernel) (by decide +kernel) (va_runV (As := [.int (nI k)]) (rest := [.int (nI k), .ref (h 16)]) ⟨hx, hb, hml, hown, hts⟩ (k_X10_offOf l dC dI h cs H.size I L (va_up A 16 g) Q k R M a (by first | assumption | omega) hR (by first | assumption | omega | exact hR1) (by first | assumption | omega | exact hR5) hM (by first | assumption | omega | exact hM1) (by first | assumption | omega | exact hM4) ha (by first | assumption | omega | exact ha2)) (cwV 1 hts gX10_offAll_X10_offOf rfl rfl rfl (by decide +kernel) ⟨Nat.le_of_ble_eq_true rfl, Nat.le_of_ble_eq_true rfl⟩) (xpV (wc := (rW h cs I L (va_up A 16 g) Q)) hP hD hK hN [0, 1, 2, 3, 4, 5, 6, 7, 8, 9, 10, 11, 12, 13, 14, 15, 16] rfl (by decide) 0 (ci := 10) rfl rfl _) rfl rfl hl.1 rfl (lv_room (Nat.le_of_ble_eq_true rfl)) dX10_offAll_17 ⟨Nat.zero_le _, Nat.zero_le _⟩) (fun r_6 u_5 H locs hw hP hD hS => ?_)
        obtain ⟨hf_7, rfl⟩ := hw
        have hP : va_P (dC, dI) vwCl (rW h cs I L (va_up A 16 g) Q) H := hP
        have hD : va_D A0 (rW h cs I L (va_up A 16 g) Q) := hD
        obtain rfl := hf_7
        refine xa_iast hx hb hK hP hD hS 7 0 rfl rfl (by omega) (by decide) dX10_offAll_20 (fun H locs hP hD hS => ?_)
        have hP : va_P (dC, dI) vwCl (rW h cs I L (va_up A 16 (upd g k (offF (A 3) a M k R))) Q) H := hP
        have hD : va_D A0 (rW h cs I L (va_up A 16 (upd g k (offF (A 3) a M k R))) Q) := hD
        refine lv_iinc (v := nI (k + 1)) (lv' := [(1, .int (nI (k + 1))), (0, .ref (h 0))]) hx hb dX10_offAll_21 hl (k := 1) rfl (nI_1 _) (by decide) rfl (fun ls hl => ?_)
        refine lv_goto (tgt := 2) hx hb dX10_offAll_24 (by decide) ?_
        exact ih_2 (k + 1) (upd g k (offF (A 3) a M k R)) (by omega) (by first | assumption | omega) (by first | exact (fun t ht => absurd ht (Nat.not_lt_zero t)) | exact offs_s (F := fun t => offF (A 3) a M t R) hg_2) _ _ _ hP hD hS (lv_sub hl [1, 0] rfl)
  exact cut_2 _ 0 (A 16) (Nat.lt_succ_self _) (by first | assumption | omega) (by first | exact (fun t ht => absurd ht (Nat.not_lt_zero t)) | exact offs_s (F := fun t => offF (A 3) a M t R) hg_2) _ _ _ hP hD hS (lv_sub hl [1, 0] rfl)
set_option maxRecDepth 20000 in
theorem ggX10_nearest_X10_isWord : GoodIn wsX10_nearest wsX10_isWord := goodIn_r _ [6, 7, 8, 9, 5, 10, 11, 12, 13, 14, 15, 30, 31, 32, 33, 34, 35, 36, 37, 38, 39, 40, 41, 42, 43, 44, 45, 46, 47, 48, 49, 50, 51, 52, 53, 54, 55, 56, 57] rfl (by decide +kernel)
set_option maxRecDepth 20000 in
theorem gX10_nearest_X10_isWord : GoodIn wsX10_nearest (wsV RX10 159 RX10 yX10_isWord wsX10_isWord) := goodIn_app (goodIn_of _ (by decide +kernel)) ggX10_nearest_X10_isWord
set_option maxRecDepth 20000 in
theorem ggX10_nearest_X10_offAll : GoodIn wsX10_nearest wsX10_offAll := goodIn_r _ [19, 1, 7, 8, 9, 5, 10, 11, 12, 20, 21, 22, 23, 24, 25, 26, 27, 28, 29, 30, 31, 32, 33, 34, 35, 36, 37, 38, 39, 40, 41, 42, 43, 44, 45, 46, 47, 48, 49, 50, 51, 52, 53, 54, 55, 56, 57] rfl (by decide +kernel)
set_option maxRecDepth 20000 in
theorem gX10_nearest_X10_offAll : GoodIn wsX10_nearest (wsV RX10 165 RX10 yX10_offAll wsX10_offAll) := goodIn_app (goodIn_of _ (by decide +kernel)) ggX10_nearest_X10_offAll
set_option maxRecDepth 20000 in
theorem ggX10_nearest_X10_words : GoodIn wsX10_nearest wsX10_words := goodIn_r _ [10, 11, 12, 30, 31, 32, 33, 34, 35, 36, 37, 38, 39, 40, 41, 42, 43, 44, 45, 46, 47, 48, 49, 50, 51, 52, 53, 54, 55, 56, 57] rfl (by decide +kernel)
set_option maxRecDepth 20000 in
theorem gX10_nearest_X10_words : GoodIn wsX10_nearest (wsV RX10 153 RX10 yX10_words wsX10_words) := goodIn_app (goodIn_of _ (by decide +kernel)) ggX10_nearest_X10_words
theorem bdX10_nearest_0 : (decode cX10_nearest 0 = .ok (.aload_n 0, 1)) ∧ (decode cX10_nearest 1 = .ok (.iload_n 1, 1)) ∧ (decode cX10_nearest 2 = .ok (.invokevirtual 159, 3)) ∧ (decode cX10_nearest 5 = .ok (.ifCond .ne 5, 3)) ∧ (decode cX10_nearest 8 = .ok (.iconst (-1), 1)) ∧ (decode cX10_nearest 9 = .ok (.ireturn, 1)) ∧ (decode cX10_nearest 10 = .ok (.aload_n 0, 1)) ∧ (decode cX10_nearest 11 = .ok (.invokevirtual 165, 3)) ∧ (decode cX10_nearest 14 = .ok (.iconst (-1), 1)) ∧ (decode cX10_nearest 15 = .ok (.istore_n 2, 1)) ∧ (decode cX10_nearest 16 = .ok (.iconst 0, 1)) ∧ (decode cX10_nearest 17 = .ok (.istore_n 3, 1)) ∧ (decode cX10_nearest 18 = .ok (.iload_n 3, 1)) ∧ (decode cX10_nearest 19 = .ok (.aload_n 0, 1)) ∧ (decode cX10_nearest 20 = .ok (.invokevirtual 153, 3)) ∧ (decode cX10_nearest 23 = .ok (.if_icmp .ge 90, 3)) := by decide +kernel
theorem dX10_nearest_0 : decode cX10_nearest 0 = .ok (.aload_n 0, 1) := bdX10_nearest_0.1
theorem dX10_nearest_1 : decode cX10_nearest 1 = .ok (.iload_n 1, 1) := bdX10_nearest_0.2.1
theorem dX10_nearest_2 : decode cX10_nearest 2 = .ok (.invokevirtual 159, 3) := bdX10_nearest_0.2.2.1
theorem dX10_nearest_5 : decode cX10_nearest 5 = .ok (.ifCond .ne 5, 3) := bdX10_nearest_0.2.2.2.1
theorem dX10_nearest_8 : decode cX10_nearest 8 = .ok (.iconst (-1), 1) := bdX10_nearest_0.2.2.2.2.1
theorem dX10_nearest_9 : decode cX10_nearest 9 = .ok (.ireturn, 1) := bdX10_nearest_0.2.2.2.2.2.1
theorem dX10_nearest_10 : decode cX10_nearest 10 = .ok (.aload_n 0, 1) := bdX10_nearest_0.2.2.2.2.2.2.1
theorem dX10_nearest_11 : decode cX10_nearest 11 = .ok (.invokevirtual 165, 3) := bdX10_nearest_0.2.2.2.2.2.2.2.1
theorem dX10_nearest_14 : decode cX10_nearest 14 = .ok (.iconst (-1), 1) := bdX10_nearest_0.2.2.2.2.2.2.2.2.1
theorem dX10_nearest_15 : decode cX10_nearest 15 = .ok (.istore_n 2, 1) := bdX10_nearest_0.2.2.2.2.2.2.2.2.2.1
theorem dX10_nearest_16 : decode cX10_nearest 16 = .ok (.iconst 0, 1) := bdX10_nearest_0.2.2.2.2.2.2.2.2.2.2.1
theorem dX10_nearest_17 : decode cX10_nearest 17 = .ok (.istore_n 3, 1) := bdX10_nearest_0.2.2.2.2.2.2.2.2.2.2.2.1
theorem dX10_nearest_18 : decode cX10_nearest 18 = .ok (.iload_n 3, 1) := bdX10_nearest_0.2.2.2.2.2.2.2.2.2.2.2.2.1
theorem dX10_nearest_19 : decode cX10_nearest 19 = .ok (.aload_n 0, 1) := bdX10_nearest_0.2.2.2.2.2.2.2.2.2.2.2.2.2.1
theorem dX10_nearest_20 : decode cX10_nearest 20 = .ok (.invokevirtual 153, 3) := bdX10_nearest_0.2.2.2.2.2.2.2.2.2.2.2.2.2.2.1
theorem dX10_nearest_23 : decode cX10_nearest 23 = .ok (.if_icmp .ge 90, 3) := bdX10_nearest_0.2.2.2.2.2.2.2.2.2.2.2.2.2.2.2
theorem bdX10_nearest_26 : (decode cX10_nearest 26 = .ok (.iconst 0, 1)) ∧ (decode cX10_nearest 27 = .ok (.istore 4, 2)) ∧ (decode cX10_nearest 29 = .ok (.iconst 0, 1)) ∧ (decode cX10_nearest 30 = .ok (.istore 5, 2)) ∧ (decode cX10_nearest 32 = .ok (.iload 5, 2)) ∧ (decode cX10_nearest 34 = .ok (.aload_n 0, 1)) ∧ (decode cX10_nearest 35 = .ok (.invokevirtual 153, 3)) ∧ (decode cX10_nearest 38 = .ok (.if_icmp .ge 57, 3)) ∧ (decode cX10_nearest 41 = .ok (.iload 4, 2)) ∧ (decode cX10_nearest 43 = .ok (.aload_n 0, 1)) ∧ (decode cX10_nearest 44 = .ok (.getfield 38, 3)) ∧ (decode cX10_nearest 47 = .ok (.iload 5, 2)) ∧ (decode cX10_nearest 49 = .ok (.iaload, 1)) ∧ (decode cX10_nearest 50 = .ok (.aload_n 0, 1)) ∧ (decode cX10_nearest 51 = .ok (.getfield 38, 3)) ∧ (decode cX10_nearest 54 = .ok (.iload_n 3, 1)) := by decide +kernel
theorem dX10_nearest_26 : decode cX10_nearest 26 = .ok (.iconst 0, 1) := bdX10_nearest_26.1
theorem dX10_nearest_27 : decode cX10_nearest 27 = .ok (.istore 4, 2) := bdX10_nearest_26.2.1
theorem dX10_nearest_29 : decode cX10_nearest 29 = .ok (.iconst 0, 1) := bdX10_nearest_26.2.2.1
theorem dX10_nearest_30 : decode cX10_nearest 30 = .ok (.istore 5, 2) := bdX10_nearest_26.2.2.2.1
theorem dX10_nearest_32 : decode cX10_nearest 32 = .ok (.iload 5, 2) := bdX10_nearest_26.2.2.2.2.1
theorem dX10_nearest_34 : decode cX10_nearest 34 = .ok (.aload_n 0, 1) := bdX10_nearest_26.2.2.2.2.2.1
theorem dX10_nearest_35 : decode cX10_nearest 35 = .ok (.invokevirtual 153, 3) := bdX10_nearest_26.2.2.2.2.2.2.1
theorem dX10_nearest_38 : decode cX10_nearest 38 = .ok (.if_icmp .ge 57, 3) := bdX10_nearest_26.2.2.2.2.2.2.2.1
theorem dX10_nearest_41 : decode cX10_nearest 41 = .ok (.iload 4, 2) := bdX10_nearest_26.2.2.2.2.2.2.2.2.1
theorem dX10_nearest_43 : decode cX10_nearest 43 = .ok (.aload_n 0, 1) := bdX10_nearest_26.2.2.2.2.2.2.2.2.2.1
theorem dX10_nearest_44 : decode cX10_nearest 44 = .ok (.getfield 38, 3) := bdX10_nearest_26.2.2.2.2.2.2.2.2.2.2.1
theorem dX10_nearest_47 : decode cX10_nearest 47 = .ok (.iload 5, 2) := bdX10_nearest_26.2.2.2.2.2.2.2.2.2.2.2.1
theorem dX10_nearest_49 : decode cX10_nearest 49 = .ok (.iaload, 1) := bdX10_nearest_26.2.2.2.2.2.2.2.2.2.2.2.2.1
theorem dX10_nearest_50 : decode cX10_nearest 50 = .ok (.aload_n 0, 1) := bdX10_nearest_26.2.2.2.2.2.2.2.2.2.2.2.2.2.1
theorem dX10_nearest_51 : decode cX10_nearest 51 = .ok (.getfield 38, 3) := bdX10_nearest_26.2.2.2.2.2.2.2.2.2.2.2.2.2.2.1
theorem dX10_nearest_54 : decode cX10_nearest 54 = .ok (.iload_n 3, 1) := bdX10_nearest_26.2.2.2.2.2.2.2.2.2.2.2.2.2.2.2
theorem bdX10_nearest_55 : (decode cX10_nearest 55 = .ok (.iaload, 1)) ∧ (decode cX10_nearest 56 = .ok (.if_icmp .lt 25, 3)) ∧ (decode cX10_nearest 59 = .ok (.aload_n 0, 1)) ∧ (decode cX10_nearest 60 = .ok (.getfield 38, 3)) ∧ (decode cX10_nearest 63 = .ok (.iload 5, 2)) ∧ (decode cX10_nearest 65 = .ok (.iaload, 1)) ∧ (decode cX10_nearest 66 = .ok (.aload_n 0, 1)) ∧ (decode cX10_nearest 67 = .ok (.getfield 38, 3)) ∧ (decode cX10_nearest 70 = .ok (.iload_n 3, 1)) ∧ (decode cX10_nearest 71 = .ok (.iaload, 1)) ∧ (decode cX10_nearest 72 = .ok (.if_icmp .ne 13, 3)) ∧ (decode cX10_nearest 75 = .ok (.iload 5, 2)) ∧ (decode cX10_nearest 77 = .ok (.iload_n 3, 1)) ∧ (decode cX10_nearest 78 = .ok (.if_icmp .ge 7, 3)) ∧ (decode cX10_nearest 81 = .ok (.iconst 1, 1)) ∧ (decode cX10_nearest 82 = .ok (.goto 4, 3)) := by decide +kernel
theorem dX10_nearest_55 : decode cX10_nearest 55 = .ok (.iaload, 1) := bdX10_nearest_55.1
theorem dX10_nearest_56 : decode cX10_nearest 56 = .ok (.if_icmp .lt 25, 3) := bdX10_nearest_55.2.1
theorem dX10_nearest_59 : decode cX10_nearest 59 = .ok (.aload_n 0, 1) := bdX10_nearest_55.2.2.1
theorem dX10_nearest_60 : decode cX10_nearest 60 = .ok (.getfield 38, 3) := bdX10_nearest_55.2.2.2.1
theorem dX10_nearest_63 : decode cX10_nearest 63 = .ok (.iload 5, 2) := bdX10_nearest_55.2.2.2.2.1
theorem dX10_nearest_65 : decode cX10_nearest 65 = .ok (.iaload, 1) := bdX10_nearest_55.2.2.2.2.2.1
theorem dX10_nearest_66 : decode cX10_nearest 66 = .ok (.aload_n 0, 1) := bdX10_nearest_55.2.2.2.2.2.2.1
theorem dX10_nearest_67 : decode cX10_nearest 67 = .ok (.getfield 38, 3) := bdX10_nearest_55.2.2.2.2.2.2.2.1
theorem dX10_nearest_70 : decode cX10_nearest 70 = .ok (.iload_n 3, 1) := bdX10_nearest_55.2.2.2.2.2.2.2.2.1
theorem dX10_nearest_71 : decode cX10_nearest 71 = .ok (.iaload, 1) := bdX10_nearest_55.2.2.2.2.2.2.2.2.2.1
theorem dX10_nearest_72 : decode cX10_nearest 72 = .ok (.if_icmp .ne 13, 3) := bdX10_nearest_55.2.2.2.2.2.2.2.2.2.2.1
theorem dX10_nearest_75 : decode cX10_nearest 75 = .ok (.iload 5, 2) := bdX10_nearest_55.2.2.2.2.2.2.2.2.2.2.2.1
theorem dX10_nearest_77 : decode cX10_nearest 77 = .ok (.iload_n 3, 1) := bdX10_nearest_55.2.2.2.2.2.2.2.2.2.2.2.2.1
theorem dX10_nearest_78 : decode cX10_nearest 78 = .ok (.if_icmp .ge 7, 3) := bdX10_nearest_55.2.2.2.2.2.2.2.2.2.2.2.2.2.1
theorem dX10_nearest_81 : decode cX10_nearest 81 = .ok (.iconst 1, 1) := bdX10_nearest_55.2.2.2.2.2.2.2.2.2.2.2.2.2.2.1
theorem dX10_nearest_82 : decode cX10_nearest 82 = .ok (.goto 4, 3) := bdX10_nearest_55.2.2.2.2.2.2.2.2.2.2.2.2.2.2.2
theorem bdX10_nearest_85 : (decode cX10_nearest 85 = .ok (.iconst 0, 1)) ∧ (decode cX10_nearest 86 = .ok (.iadd, 1)) ∧ (decode cX10_nearest 87 = .ok (.istore 4, 2)) ∧ (decode cX10_nearest 89 = .ok (.iinc 5 1, 3)) ∧ (decode cX10_nearest 92 = .ok (.goto (-60), 3)) ∧ (decode cX10_nearest 95 = .ok (.iload 4, 2)) ∧ (decode cX10_nearest 97 = .ok (.iload_n 1, 1)) ∧ (decode cX10_nearest 98 = .ok (.if_icmp .ne 7, 3)) ∧ (decode cX10_nearest 101 = .ok (.iload_n 3, 1)) ∧ (decode cX10_nearest 102 = .ok (.goto 4, 3)) ∧ (decode cX10_nearest 105 = .ok (.iload_n 2, 1)) ∧ (decode cX10_nearest 106 = .ok (.istore_n 2, 1)) ∧ (decode cX10_nearest 107 = .ok (.iinc 3 1, 3)) ∧ (decode cX10_nearest 110 = .ok (.goto (-92), 3)) ∧ (decode cX10_nearest 113 = .ok (.iload_n 2, 1)) ∧ (decode cX10_nearest 114 = .ok (.ireturn, 1)) := by decide +kernel
theorem dX10_nearest_85 : decode cX10_nearest 85 = .ok (.iconst 0, 1) := bdX10_nearest_85.1
theorem dX10_nearest_86 : decode cX10_nearest 86 = .ok (.iadd, 1) := bdX10_nearest_85.2.1
theorem dX10_nearest_87 : decode cX10_nearest 87 = .ok (.istore 4, 2) := bdX10_nearest_85.2.2.1
theorem dX10_nearest_89 : decode cX10_nearest 89 = .ok (.iinc 5 1, 3) := bdX10_nearest_85.2.2.2.1
theorem dX10_nearest_92 : decode cX10_nearest 92 = .ok (.goto (-60), 3) := bdX10_nearest_85.2.2.2.2.1
theorem dX10_nearest_95 : decode cX10_nearest 95 = .ok (.iload 4, 2) := bdX10_nearest_85.2.2.2.2.2.1
theorem dX10_nearest_97 : decode cX10_nearest 97 = .ok (.iload_n 1, 1) := bdX10_nearest_85.2.2.2.2.2.2.1
theorem dX10_nearest_98 : decode cX10_nearest 98 = .ok (.if_icmp .ne 7, 3) := bdX10_nearest_85.2.2.2.2.2.2.2.1
theorem dX10_nearest_101 : decode cX10_nearest 101 = .ok (.iload_n 3, 1) := bdX10_nearest_85.2.2.2.2.2.2.2.2.1
theorem dX10_nearest_102 : decode cX10_nearest 102 = .ok (.goto 4, 3) := bdX10_nearest_85.2.2.2.2.2.2.2.2.2.1
theorem dX10_nearest_105 : decode cX10_nearest 105 = .ok (.iload_n 2, 1) := bdX10_nearest_85.2.2.2.2.2.2.2.2.2.2.1
theorem dX10_nearest_106 : decode cX10_nearest 106 = .ok (.istore_n 2, 1) := bdX10_nearest_85.2.2.2.2.2.2.2.2.2.2.2.1
theorem dX10_nearest_107 : decode cX10_nearest 107 = .ok (.iinc 3 1, 3) := bdX10_nearest_85.2.2.2.2.2.2.2.2.2.2.2.2.1
theorem dX10_nearest_110 : decode cX10_nearest 110 = .ok (.goto (-92), 3) := bdX10_nearest_85.2.2.2.2.2.2.2.2.2.2.2.2.2.1
theorem dX10_nearest_113 : decode cX10_nearest 113 = .ok (.iload_n 2, 1) := bdX10_nearest_85.2.2.2.2.2.2.2.2.2.2.2.2.2.2.1
theorem dX10_nearest_114 : decode cX10_nearest 114 = .ok (.ireturn, 1) := bdX10_nearest_85.2.2.2.2.2.2.2.2.2.2.2.2.2.2.2
set_option maxHeartbeats 4000000 in
set_option maxRecDepth 100000 in
theorem k_X10_nearest (l : Launch) (dC : Nat → ClassId) (dI : Nat → Nat → Nat) (h : Nat → Nat) (cs : Nat → ClassId) (sz : Nat) (I : Nat → Int32) (L : Nat → Int64) (A : Nat → Nat → Int32) (Q : Nat → Nat → Int64) (x : Int32) (R M a : Nat) (hR : I 0 = nI R) (hR1 : 1 ≤ R) (hR5 : R ≤ 5) (hM : I 1 = nI M) (hM1 : 1 ≤ M) (hM4 : M ≤ 4) (ha : I 2 = nI a) (ha2 : a = 2 ∨ a = 4) : Met l yX10_nearest wsX10_nearest ({ frames := 3, cells := 0, slots := 0, locals := 70 }) (va_Pc [.ref (h 0), .int x] (xPre (dC, dI) (rW h cs I L A Q) (tysA cs) sz)) (va_Qi (fun (r : Int32) (u : RS) => ∃ f16 : Nat → Int32, ((∃ i : Nat, i < a ^ M ∧ x = nI i ∧ (∀ t : Nat, t < a ^ M → f16 t = offF (A 3) a M t R) ∧ r = foundF f16 i (a ^ M) (a ^ M)) ∨ (r = -1 ∧ (∀ i : Nat, i < a ^ M → x ≠ nI i) ∧ f16 = A 16)) ∧ u = (I, L, (va_up A 16 f16), Q)) (xB (dC, dI) (tysA cs) (va_A (rW h cs I L A Q) sz) (fun u : RS => rW h cs u.1 u.2.1 u.2.2.1 u.2.2.2)) (va_A (rW h cs I L A Q) sz)) 0 0 (va_A (rW h cs I L A Q) sz) := by
  refine Met.ofW (cc := cX10_nearest) (maxL := 6) (ret := (some .int)) (by decide) rfl ?_
  intro p e s m args below meth c s₁ B hml hv
  obtain ⟨rfl, hsz, hP, hK, hD0, hN⟩ := hv
  have hx := B.exec
  have hb := B.bytes
  have hr := B.returns
  have hts := atoms_spec (ws := wsX10_nearest) B.pre
  have hown : s.vm.findClass RX10 = some m.cls := findClass_of_methodNamed B.named
  have hlocks := B.notSynchronized
  subst hsz
  have hD := hD0.self (sz := s.heap.size)
  generalize hAe : va_A (rW h cs I L A Q) s.heap.size = A0 at hD ⊢
  have hA : ∀ q : Nat, s.heap.size ≤ q → A0 q := fun q h => by rw [← hAe]; exact Or.inr h
  have hl := lv_entry ([.ref (h 0), .int x]) (n := 6) (Nat.le_of_ble_eq_true rfl)
  rw [lg_entry_eq]
  generalize (lg_sl ([.ref (h 0), .int x]) ++ List.replicate (6 - (lg_sl ([.ref (h 0), .int x])).length) Slot.unset).toArray = ls at hl ⊢
  have hl : lv_has ls 6 [(0, .ref (h 0)), (1, .int x)] := hl
  generalize hH : s.heap = H at hP ⊢
  have hS : va_S A0 s.heap H [] := by rw [← hH]; exact va_S.rf
  have hinX10 : ∀ w ∈ wsX100, w ∈ wsX10_nearest := by decide +kernel
  have hpw : a ^ M ≤ 256 := pw_le ha2 hM4
  have hpw1 : 1 ≤ a ^ M := pw_pos ha2
  refine lv_aload_n hx hb dX10_nearest_0 rfl (lv_at hl 0 rfl) ?_
  refine lv_iload_n hx hb dX10_nearest_1 rfl (lv_at hl 1 rfl) ?_
  refine xj_i (wc := (rW h cs I L A Q)) (wr := ([] : va_W)) hP hD hS hA [0, 1, 2, 3, 4, 5, 6, 7, 8, 9, 10, 11, 12, 13, 14, 15, 16] [] rfl rfl (by decide +kernel) (by decide +kernel) (va_runV (As := [.int x]) (rest := []) ⟨hx, hb, hml, hown, hts⟩ (k_X10_isWord l dC dI h cs H.size I L A Q x M a hM (by first | assumption | omega | exact hM1) (by first | assumption | omega | exact hM4) ha (by first | assumption | omega | exact ha2)) (cwV 1 hts gX10_nearest_X10_isWord rfl rfl rfl (by decide +kernel) ⟨Nat.le_of_ble_eq_true rfl, Nat.le_of_ble_eq_true rfl⟩) (xpV (wc := (rW h cs I L A Q)) hP hD hK hN [0, 1, 2, 3, 4, 5, 6, 7, 8, 9, 10, 11, 12, 13, 14, 15, 16] rfl (by decide) 0 (ci := 10) rfl rfl _) rfl rfl hl.1 rfl (lv_room (Nat.le_of_ble_eq_true rfl)) dX10_nearest_2 ⟨Nat.zero_le _, Nat.zero_le _⟩) (fun r_2 u_1 H locs hw hP hD hS => ?_)
  obtain ⟨hf_3, rfl⟩ := hw
  have hP : va_P (dC, dI) vwCl (rW h cs I L A Q) H := hP
  have hD : va_D A0 (rW h cs I L A Q) := hD
  rcases hf_3 with ⟨rfl, i_4, hi_5, hx_6⟩ | ⟨rfl, hn_7⟩
  · skip
    rw [hx_6] at hl
    refine xs_neT (tgt := 10) hx hb dX10_nearest_5 (by decide) (by decide) ?_
    refine lv_aload_n hx hb dX10_nearest_10 rfl (lv_at hl 0 rfl) ?_
    refine xj_v (wc := (rW h cs I L A Q)) (wr := ([] : va_W)) hP hD hS hA [0, 1, 2, 3, 4, 5, 6, 7, 8, 9, 10, 11, 12, 13, 14, 15, 16] [] rfl rfl (by decide +kernel) (by decide +kernel) (va_runV (As := []) (rest := []) ⟨hx, hb, hml, hown, hts⟩ (k_X10_offAll l dC dI h cs H.size I L A Q R M a hR (by first | assumption | omega | exact hR1) (by first | assumption | omega | exact hR5) hM (by first | assumption | omega | exact hM1) (by first | assumption | omega | exact hM4) ha (by first | assumption | omega | exact ha2)) (cwV 0 hts gX10_nearest_X10_offAll rfl rfl rfl (by decide +kernel) ⟨Nat.le_of_ble_eq_true rfl, Nat.le_of_ble_eq_true rfl⟩) (xpV (wc := (rW h cs I L A Q)) hP hD hK hN [0, 1, 2, 3, 4, 5, 6, 7, 8, 9, 10, 11, 12, 13, 14, 15, 16] rfl (by decide) 0 (ci := 10) rfl rfl _) rfl rfl hl.1 rfl (lv_room (Nat.le_of_ble_eq_true rfl)) dX10_nearest_11 ⟨Nat.zero_le _, Nat.zero_le _⟩) (fun u_9 H locs hw hP hD hS => ?_)
    obtain ⟨f16_11, hf_12, rfl⟩ := hw
    have hP : va_P (dC, dI) vwCl (rW h cs I L (va_up A 16 f16_11) Q) H := hP
    have hD : va_D A0 (rW h cs I L (va_up A 16 f16_11) Q) := hD
    refine lv_iconst (v := (-1)) hx hb dX10_nearest_14 (by decide) ?_
    refine lv_istore_n (lv' := [(2, .int (-1)), (0, .ref (h 0)), (1, .int (nI i_4))]) hx hb dX10_nearest_15 rfl hl (by decide) rfl (fun ls hl => ?_)
    refine lv_iconst (v := nI 0) hx hb dX10_nearest_16 (by decide) ?_
    refine lv_istore_n (lv' := [(3, .int (nI 0)), (2, .int (-1)), (0, .ref (h 0)), (1, .int (nI i_4))]) hx hb dX10_nearest_17 rfl hl (by decide) rfl (fun ls hl => ?_)
    have cut_18 : ∀ (nf : Nat) (k : Nat) (f2 : Int32), (a ^ M - k) < nf → (k ≤ a ^ M) → (f2 = foundF f16_11 i_4 (a ^ M) k) → ∀ (H : Heap) (locs : List Loc) (ls : Array Slot), va_P (dC, dI) vwCl (rW h cs I L (va_up A 16 f16_11) Q) H → va_D A0 (rW h cs I L (va_up A 16 f16_11) Q) → va_S A0 s.heap H locs → lv_has ls 6 [(0, .ref (h 0)), (1, .int (nI i_4)), (2, .int f2), (3, .int (nI k))] → W p l e (headSpec wsX10_nearest ({ frames := 3, cells := 0, slots := 0, locals := 70 })).room s m ([.ref (h 0), .int x] : List Value).toArray below meth c H locs 0 0 (MQ below (va_Qi (fun (r : Int32) (u : RS) => ∃ f16 : Nat → Int32, ((∃ i : Nat, i < a ^ M ∧ x = nI i ∧ (∀ t : Nat, t < a ^ M → f16 t = offF (A 3) a M t R) ∧ r = foundF f16 i (a ^ M) (a ^ M)) ∨ (r = -1 ∧ (∀ i : Nat, i < a ^ M → x ≠ nI i) ∧ f16 = A 16)) ∧ u = (I, L, (va_up A 16 f16), Q)) (xB (dC, dI) (tysA cs) A0 (fun u : RS => rW h cs u.1 u.2.1 u.2.2.1 u.2.2.2)) A0) ([.ref (h 0), .int x] : List Value).toArray s 0 0 A0) (F0 m 18 ls []) := by
      intro nf
      induction nf with
      | zero => intro k f2 hm; exact absurd hm (Nat.not_lt_zero _)
      | succ nf ih_18 =>
        intro k f2 hm_18 hk_18 hf2_18 H locs ls hP hD hS hl
        refine lv_iload_n hx hb dX10_nearest_18 rfl (lv_at hl 3 rfl) ?_
        refine lv_aload_n hx hb dX10_nearest_19 rfl (lv_at hl 0 rfl) ?_
        refine xj_i (wc := (rW h cs I L (va_up A 16 f16_11) Q)) (wr := ([] : va_W)) hP hD hS hA [0, 1, 2, 3, 4, 5, 6, 7, 8, 9, 10, 11, 12, 13, 14, 15, 16] [] rfl rfl (by decide +kernel) (by decide +kernel) (va_runV (As := []) (rest := [.int (nI k)]) ⟨hx, hb, hml, hown, hts⟩ (k_X10_words l dC dI h cs H.size I L (va_up A 16 f16_11) Q M a hM (by first | assumption | omega | exact hM1) (by first | assumption | omega | exact hM4) ha (by first | assumption | omega | exact ha2)) (cwV 0 hts gX10_nearest_X10_words rfl rfl rfl (by decide +kernel) ⟨Nat.le_of_ble_eq_true rfl, Nat.le_of_ble_eq_true rfl⟩) (xpV (wc := (rW h cs I L (va_up A 16 f16_11) Q)) hP hD hK hN [0, 1, 2, 3, 4, 5, 6, 7, 8, 9, 10, 11, 12, 13, 14, 15, 16] rfl (by decide) 0 (ci := 10) rfl rfl _) rfl rfl hl.1 rfl (lv_room (Nat.le_of_ble_eq_true rfl)) dX10_nearest_20 ⟨Nat.zero_le _, Nat.zero_le _⟩) (fun r_14 u_13 H locs hw hP hD hS => ?_)
        obtain ⟨hf_15, rfl⟩ := hw
        have hP : va_P (dC, dI) vwCl (rW h cs I L (va_up A 16 f16_11) Q) H := hP
        have hD : va_D A0 (rW h cs I L (va_up A 16 f16_11) Q) := hD
        obtain rfl := hf_15
        refine xn_ge (tgt := 113) hx hb dX10_nearest_23 (by decide) (by omega) (by omega) (fun c_23_15 => ?_) (fun c_23_15 => ?_)
        · skip
          refine lv_iload_n hx hb dX10_nearest_113 rfl (lv_at hl 2 rfl) ?_
          exact xr_i (v := f2) hx hb hr hlocks hK hS dX10_nearest_114 (I, L, (va_up A 16 f16_11), Q) ⟨f16_11, (Or.inl ⟨i_4, hi_5, hx_6, hf_12, by rw [hf2_18, show a ^ M = k by omega]⟩), rfl⟩ hP hD
        · skip
          refine lv_iconst (v := nI 0) hx hb dX10_nearest_26 (by decide) ?_
          refine lv_istore (lv' := [(4, .int (nI 0)), (0, .ref (h 0)), (1, .int (nI i_4)), (2, .int f2), (3, .int (nI k))]) hx hb dX10_nearest_27 hl (by decide) rfl (fun ls hl => ?_)
          refine lv_iconst (v := nI 0) hx hb dX10_nearest_29 (by decide) ?_
          refine lv_istore (lv' := [(5, .int (nI 0)), (4, .int (nI 0)), (0, .ref (h 0)), (1, .int (nI i_4)), (2, .int f2), (3, .int (nI k))]) hx hb dX10_nearest_30 hl (by decide) rfl (fun ls hl => ?_)
          have cut_32 : ∀ (nf : Nat) (c5 : Nat) (n4 : Nat), (a ^ M - c5) < nf → (c5 ≤ a ^ M) → (n4 = aheadF f16_11 k c5) → (n4 ≤ c5) → ∀ (H : Heap) (locs : List Loc) (ls : Array Slot), va_P (dC, dI) vwCl (rW h cs I L (va_up A 16 f16_11) Q) H → va_D A0 (rW h cs I L (va_up A 16 f16_11) Q) → va_S A0 s.heap H locs → lv_has ls 6 [(0, .ref (h 0)), (1, .int (nI i_4)), (2, .int f2), (3, .int (nI k)), (4, .int (nI n4)), (5, .int (nI c5))] → W p l e (headSpec wsX10_nearest ({ frames := 3, cells := 0, slots := 0, locals := 70 })).room s m ([.ref (h 0), .int x] : List Value).toArray below meth c H locs 0 0 (MQ below (va_Qi (fun (r : Int32) (u : RS) => ∃ f16 : Nat → Int32, ((∃ i : Nat, i < a ^ M ∧ x = nI i ∧ (∀ t : Nat, t < a ^ M → f16 t = offF (A 3) a M t R) ∧ r = foundF f16 i (a ^ M) (a ^ M)) ∨ (r = -1 ∧ (∀ i : Nat, i < a ^ M → x ≠ nI i) ∧ f16 = A 16)) ∧ u = (I, L, (va_up A 16 f16), Q)) (xB (dC, dI) (tysA cs) A0 (fun u : RS => rW h cs u.1 u.2.1 u.2.2.1 u.2.2.2)) A0) ([.ref (h 0), .int x] : List Value).toArray s 0 0 A0) (F0 m 32 ls []) := by
            intro nf
            induction nf with
            | zero => intro c5 n4 hm; exact absurd hm (Nat.not_lt_zero _)
            | succ nf ih_32 =>
              intro c5 n4 hm_32 hc_32 hn_32 hnb_32 H locs ls hP hD hS hl
              refine lv_iload hx hb dX10_nearest_32 (lv_at hl 5 rfl) ?_
              refine lv_aload_n hx hb dX10_nearest_34 rfl (lv_at hl 0 rfl) ?_
              refine xj_i (wc := (rW h cs I L (va_up A 16 f16_11) Q)) (wr := ([] : va_W)) hP hD hS hA [0, 1, 2, 3, 4, 5, 6, 7, 8, 9, 10, 11, 12, 13, 14, 15, 16] [] rfl rfl (by decide +kernel) (by decide +kernel) (va_runV (As := []) (rest := [.int (nI c5)]) ⟨hx, hb, hml, hown, hts⟩ (k_X10_words l dC dI h cs H.size I L (va_up A 16 f16_11) Q M a hM (by first | assumption | omega | exact hM1) (by first | assumption | omega | exact hM4) ha (by first | assumption | omega | exact ha2)) (cwV 0 hts gX10_nearest_X10_words rfl rfl rfl (by decide +kernel) ⟨Nat.le_of_ble_eq_true rfl, Nat.le_of_ble_eq_true rfl⟩) (xpV (wc := (rW h cs I L (va_up A 16 f16_11) Q)) hP hD hK hN [0, 1, 2, 3, 4, 5, 6, 7, 8, 9, 10, 11, 12, 13, 14, 15, 16] rfl (by decide) 0 (ci := 10) rfl rfl _) rfl rfl hl.1 rfl (lv_room (Nat.le_of_ble_eq_true rfl)) dX10_nearest_35 ⟨Nat.zero_le _, Nat.zero_le _⟩) (fun r_18 u_17 H locs hw hP hD hS => ?_)
              obtain ⟨hf_19, rfl⟩ := hw
              have hP : va_P (dC, dI) vwCl (rW h cs I L (va_up A 16 f16_11) Q) H := hP
              have hD : va_D A0 (rW h cs I L (va_up A 16 f16_11) Q) := hD
              obtain rfl := hf_19
              refine xn_ge (tgt := 95) hx hb dX10_nearest_38 (by decide) (by omega) (by omega) (fun c_38_19 => ?_) (fun c_38_19 => ?_)
              · skip
                rw [show c5 = a ^ M by omega] at hn_32
                refine lv_iload hx hb dX10_nearest_95 (lv_at hl 4 rfl) ?_
                refine lv_iload_n hx hb dX10_nearest_97 rfl (lv_at hl 1 rfl) ?_
                refine xn_ne (tgt := 105) hx hb dX10_nearest_98 (by decide) (by omega) (by omega) (fun c_98_20 => ?_) (fun c_98_20 => ?_)
                · skip
                  refine lv_iload_n hx hb dX10_nearest_105 rfl (lv_at hl 2 rfl) ?_
                  refine lv_istore_n (lv' := [(2, .int f2), (0, .ref (h 0)), (1, .int (nI i_4)), (3, .int (nI k)), (4, .int (nI n4)), (5, .int (nI c5))]) hx hb dX10_nearest_106 rfl hl (by decide) rfl (fun ls hl => ?_)
                  refine lv_iinc (v := nI (k + 1)) (lv' := [(3, .int (nI (k + 1))), (2, .int f2), (0, .ref (h 0)), (1, .int (nI i_4)), (4, .int (nI n4)), (5, .int (nI c5))]) hx hb dX10_nearest_107 hl (k := 3) rfl (nI_1 _) (by decide) rfl (fun ls hl => ?_)
                  refine lv_goto (tgt := 18) hx hb dX10_nearest_110 (by decide) ?_
                  exact ih_18 (k + 1) f2 (by omega) (by first | assumption | omega) (by first | rfl | (rw [foundF, if_pos (by omega)]) | (rw [foundF, if_neg (by omega)]; exact hf2_18)) _ _ _ hP hD hS (lv_sub hl [2, 3, 1, 0] rfl)
                · skip
                  refine lv_iload_n hx hb dX10_nearest_101 rfl (lv_at hl 3 rfl) ?_
                  refine lv_goto (tgt := 106) hx hb dX10_nearest_102 (by decide) ?_
                  refine lv_istore_n (lv' := [(2, .int (nI k)), (0, .ref (h 0)), (1, .int (nI i_4)), (3, .int (nI k)), (4, .int (nI n4)), (5, .int (nI c5))]) hx hb dX10_nearest_106 rfl hl (by decide) rfl (fun ls hl => ?_)
                  refine lv_iinc (v := nI (k + 1)) (lv' := [(3, .int (nI (k + 1))), (2, .int (nI k)), (0, .ref (h 0)), (1, .int (nI i_4)), (4, .int (nI n4)), (5, .int (nI c5))]) hx hb dX10_nearest_107 hl (k := 3) rfl (nI_1 _) (by decide) rfl (fun ls hl => ?_)
                  refine lv_goto (tgt := 18) hx hb dX10_nearest_110 (by decide) ?_
                  exact ih_18 (k + 1) (nI k) (by omega) (by first | assumption | omega) (by first | rfl | (rw [foundF, if_pos (by omega)]) | (rw [foundF, if_neg (by omega)]; exact hf2_18)) _ _ _ hP hD hS (lv_sub hl [2, 3, 1, 0] rfl)
              · skip
                refine lv_iload hx hb dX10_nearest_41 (lv_at hl 4 rfl) ?_
                refine lv_aload_n hx hb dX10_nearest_43 rfl (lv_at hl 0 rfl) ?_
                refine va_get (D := (dC, dI)) (ci := 10) (v := .ref (h 16)) (C := RX10) (T := TX10) (N := 28) hx hb hts hinX10 hown hK hP 0 rfl rfl 16 (by decide) (hts (.fieldLink RX10 38 "MixedWordsModel" "offs" "[I") (by decide +kernel)) (fun _ h9 => h9) rfl dX10_nearest_44 ?_
                refine lv_iload hx hb dX10_nearest_47 (lv_at hl 5 rfl) ?_
                refine xa_iald hx hb hK hP 7 0 rfl rfl (by omega) (by decide) dX10_nearest_49 ?_
                refine lv_aload_n hx hb dX10_nearest_50 rfl (lv_at hl 0 rfl) ?_
                refine va_get (D := (dC, dI)) (ci := 10) (v := .ref (h 16)) (C := RX10) (T := TX10) (N := 28) hx hb hts hinX10 hown hK hP 0 rfl rfl 16 (by decide) (hts (.fieldLink RX10 38 "MixedWordsModel" "offs" "[I") (by decide +kernel)) (fun _ h9 => h9) rfl dX10_nearest_51 ?_
                refine lv_iload_n hx hb dX10_nearest_54 rfl (lv_at hl 3 rfl) ?_
                refine xa_iald hx hb hK hP 7 0 rfl rfl (by omega) (by decide) dX10_nearest_55 ?_
                refine lv_icmp_lt (tgt := 81) hx hb dX10_nearest_56 (by decide) (fun c_56_21 => ?_) (fun c_56_21 => ?_)
                · skip
                  refine lv_iconst (v := nI 1) hx hb dX10_nearest_81 (by decide) ?_
                  refine lv_goto (tgt := 86) hx hb dX10_nearest_82 (by decide) ?_
                  refine lv_iadd hx hb dX10_nearest_86 ?_
                  refine xt_i (y := nI (n4 + 1)) (nI_add _ _) ?_
                  refine lv_istore (lv' := [(4, .int (nI (n4 + 1))), (0, .ref (h 0)), (1, .int (nI i_4)), (2, .int f2), (3, .int (nI k)), (5, .int (nI c5))]) hx hb dX10_nearest_87 hl (by decide) rfl (fun ls hl => ?_)
                  refine lv_iinc (v := nI (c5 + 1)) (lv' := [(5, .int (nI (c5 + 1))), (4, .int (nI (n4 + 1))), (0, .ref (h 0)), (1, .int (nI i_4)), (2, .int f2), (3, .int (nI k))]) hx hb dX10_nearest_89 hl (k := 5) rfl (nI_1 _) (by decide) rfl (fun ls hl => ?_)
                  refine lv_goto (tgt := 32) hx hb dX10_nearest_92 (by decide) ?_
                  exact ih_32 (c5 + 1) (n4 + 1) (by omega) (by first | assumption | omega) (by first | rfl | (rw [hn_32]; show _ = aheadF _ _ (c5 + 1); rw [aheadF]; first | rw [if_pos (Or.inl (by assumption))] | rw [if_pos (Or.inr ⟨by assumption, by assumption⟩)] | rw [if_neg (by rintro (q | ⟨q1, q2⟩) <;> first | contradiction | omega)])) (by first | assumption | omega) _ _ _ hP hD hS (lv_sub hl [2, 3, 4, 5, 1, 0] rfl)
                · skip
                  refine lv_aload_n hx hb dX10_nearest_59 rfl (lv_at hl 0 rfl) ?_
                  refine va_get (D := (dC, dI)) (ci := 10) (v := .ref (h 16)) (C := RX10) (T := TX10) (N := 28) hx hb hts hinX10 hown hK hP 0 rfl rfl 16 (by decide) (hts (.fieldLink RX10 38 "MixedWordsModel" "offs" "[I") (by decide +kernel)) (fun _ h9 => h9) rfl dX10_nearest_60 ?_
                  refine lv_iload hx hb dX10_nearest_63 (lv_at hl 5 rfl) ?_
                  refine xa_iald hx hb hK hP 7 0 rfl rfl (by omega) (by decide) dX10_nearest_65 ?_
                  refine lv_aload_n hx hb dX10_nearest_66 rfl (lv_at hl 0 rfl) ?_
                  refine va_get (D := (dC, dI)) (ci := 10) (v := .ref (h 16)) (C := RX10) (T := TX10) (N := 28) hx hb hts hinX10 hown hK hP 0 rfl rfl 16 (by decide) (hts (.fieldLink RX10 38 "MixedWordsModel" "offs" "[I") (by decide +kernel)) (fun _ h9 => h9) rfl dX10_nearest_67 ?_
                  refine lv_iload_n hx hb dX10_nearest_70 rfl (lv_at hl 3 rfl) ?_
                  refine xa_iald hx hb hK hP 7 0 rfl rfl (by omega) (by decide) dX10_nearest_71 ?_
                  refine lv_icmp_ne (tgt := 85) hx hb dX10_nearest_72 (by decide) (fun c_72_22 => ?_) (fun c_72_22 => ?_)
                  · skip
                    refine lv_iconst (v := nI 0) hx hb dX10_nearest_85 (by decide) ?_
                    refine lv_iadd hx hb dX10_nearest_86 ?_
                    refine xt_i (y := nI (n4 + 0)) (nI_add _ _) ?_
                    refine lv_istore (lv' := [(4, .int (nI (n4 + 0))), (0, .ref (h 0)), (1, .int (nI i_4)), (2, .int f2), (3, .int (nI k)), (5, .int (nI c5))]) hx hb dX10_nearest_87 hl (by decide) rfl (fun ls hl => ?_)
                    refine lv_iinc (v := nI (c5 + 1)) (lv' := [(5, .int (nI (c5 + 1))), (4, .int (nI (n4 + 0))), (0, .ref (h 0)), (1, .int (nI i_4)), (2, .int f2), (3, .int (nI k))]) hx hb dX10_nearest_89 hl (k := 5) rfl (nI_1 _) (by decide) rfl (fun ls hl => ?_)
                    refine lv_goto (tgt := 32) hx hb dX10_nearest_92 (by decide) ?_
                    exact ih_32 (c5 + 1) (n4 + 0) (by omega) (by first | assumption | omega) (by first | rfl | (rw [hn_32]; show _ = aheadF _ _ (c5 + 1); rw [aheadF]; first | rw [if_pos (Or.inl (by assumption))] | rw [if_pos (Or.inr ⟨by assumption, by assumption⟩)] | rw [if_neg (by rintro (q | ⟨q1, q2⟩) <;> first | contradiction | omega)])) (by first | assumption | omega) _ _ _ hP hD hS (lv_sub hl [2, 3, 4, 5, 1, 0] rfl)
                  · skip
                    refine lv_iload hx hb dX10_nearest_75 (lv_at hl 5 rfl) ?_
                    refine lv_iload_n hx hb dX10_nearest_77 rfl (lv_at hl 3 rfl) ?_
                    refine xn_ge (tgt := 85) hx hb dX10_nearest_78 (by decide) (by omega) (by omega) (fun c_78_23 => ?_) (fun c_78_23 => ?_)
                    · skip
                      refine lv_iconst (v := nI 0) hx hb dX10_nearest_85 (by decide) ?_
                      refine lv_iadd hx hb dX10_nearest_86 ?_
                      refine xt_i (y := nI (n4 + 0)) (nI_add _ _) ?_
                      refine lv_istore (lv' := [(4, .int (nI (n4 + 0))), (0, .ref (h 0)), (1, .int (nI i_4)), (2, .int f2), (3, .int (nI k)), (5, .int (nI c5))]) hx hb dX10_nearest_87 hl (by decide) rfl (fun ls hl => ?_)
                      refine lv_iinc (v := nI (c5 + 1)) (lv' := [(5, .int (nI (c5 + 1))), (4, .int (nI (n4 + 0))), (0, .ref (h 0)), (1, .int (nI i_4)), (2, .int f2), (3, .int (nI k))]) hx hb dX10_nearest_89 hl (k := 5) rfl (nI_1 _) (by decide) rfl (fun ls hl => ?_)
                      refine lv_goto (tgt := 32) hx hb dX10_nearest_92 (by decide) ?_
                      exact ih_32 (c5 + 1) (n4 + 0) (by omega) (by first | assumption | omega) (by first | rfl | (rw [hn_32]; show _ = aheadF _ _ (c5 + 1); rw [aheadF]; first | rw [if_pos (Or.inl (by assumption))] | rw [if_pos (Or.inr ⟨by assumption, by assumption⟩)] | rw [if_neg (by rintro (q | ⟨q1, q2⟩) <;> first | contradiction | omega)])) (by first | assumption | omega) _ _ _ hP hD hS (lv_sub hl [2, 3, 4, 5, 1, 0] rfl)
                    · skip
                      refine lv_iconst (v := nI 1) hx hb dX10_nearest_81 (by decide) ?_
                      refine lv_goto (tgt := 86) hx hb dX10_nearest_82 (by decide) ?_
                      refine lv_iadd hx hb dX10_nearest_86 ?_
                      refine xt_i (y := nI (n4 + 1)) (nI_add _ _) ?_
                      refine lv_istore (lv' := [(4, .int (nI (n4 + 1))), (0, .ref (h 0)), (1, .int (nI i_4)), (2, .int f2), (3, .int (nI k)), (5, .int (nI c5))]) hx hb dX10_nearest_87 hl (by decide) rfl (fun ls hl => ?_)
                      refine lv_iinc (v := nI (c5 + 1)) (lv' := [(5, .int (nI (c5 + 1))), (4, .int (nI (n4 + 1))), (0, .ref (h 0)), (1, .int (nI i_4)), (2, .int f2), (3, .int (nI k))]) hx hb dX10_nearest_89 hl (k := 5) rfl (nI_1 _) (by decide) rfl (fun ls hl => ?_)
                      refine lv_goto (tgt := 32) hx hb dX10_nearest_92 (by decide) ?_
                      exact ih_32 (c5 + 1) (n4 + 1) (by omega) (by first | assumption | omega) (by first | rfl | (rw [hn_32]; show _ = aheadF _ _ (c5 + 1); rw [aheadF]; first | rw [if_pos (Or.inl (by assumption))] | rw [if_pos (Or.inr ⟨by assumption, by assumption⟩)] | rw [if_neg (by rintro (q | ⟨q1, q2⟩) <;> first | contradiction | omega)])) (by first | assumption | omega) _ _ _ hP hD hS (lv_sub hl [2, 3, 4, 5, 1, 0] rfl)
          exact cut_32 _ 0 0 (Nat.lt_succ_self _) (by first | assumption | omega) (by first | rfl | (rw [hn_32]; show _ = aheadF _ _ (c5 + 1); rw [aheadF]; first | rw [if_pos (Or.inl (by assumption))] | rw [if_pos (Or.inr ⟨by assumption, by assumption⟩)] | rw [if_neg (by rintro (q | ⟨q1, q2⟩) <;> first | contradiction | omega)])) (by first | assumption | omega) _ _ _ hP hD hS (lv_sub hl [2, 3, 4, 5, 1, 0] rfl)
    exact cut_18 _ 0 (-1) (Nat.lt_succ_self _) (by first | assumption | omega) (by first | rfl | (rw [foundF, if_pos (by omega)]) | (rw [foundF, if_neg (by omega)]; exact hf2_18)) _ _ _ hP hD hS (lv_sub hl [2, 3, 1, 0] rfl)
  · skip
    refine xs_neF (tgt := 10) hx hb dX10_nearest_5 (by decide) (by decide) ?_
    refine lv_iconst (v := (-1)) hx hb dX10_nearest_8 (by decide) ?_
    exact xr_i (v := (-1)) hx hb hr hlocks hK hS dX10_nearest_9 (I, L, (va_up A 16 (A 16)), Q) ⟨(A 16), (Or.inr ⟨rfl, hn_7, rfl⟩), rfl⟩ hP hD
theorem bdX10_bit_0 : (decode cX10_bit 0 = .ok (.iload_n 2, 1)) ∧ (decode cX10_bit 1 = .ok (.ifCond .ne 13, 3)) ∧ (decode cX10_bit 4 = .ok (.iload_n 1, 1)) ∧ (decode cX10_bit 5 = .ok (.ifCond .le 7, 3)) ∧ (decode cX10_bit 8 = .ok (.iconst 1, 1)) ∧ (decode cX10_bit 9 = .ok (.goto 4, 3)) ∧ (decode cX10_bit 12 = .ok (.iconst 0, 1)) ∧ (decode cX10_bit 13 = .ok (.ireturn, 1)) ∧ (decode cX10_bit 14 = .ok (.iload_n 1, 1)) ∧ (decode cX10_bit 15 = .ok (.bipush (-3), 2)) ∧ (decode cX10_bit 17 = .ok (.if_icmp .eq 8, 3)) ∧ (decode cX10_bit 20 = .ok (.iload_n 1, 1)) ∧ (decode cX10_bit 21 = .ok (.iconst 3, 1)) ∧ (decode cX10_bit 22 = .ok (.if_icmp .ne 7, 3)) ∧ (decode cX10_bit 25 = .ok (.iconst 0, 1)) ∧ (decode cX10_bit 26 = .ok (.goto 4, 3)) := by decide +kernel
theorem dX10_bit_0 : decode cX10_bit 0 = .ok (.iload_n 2, 1) := bdX10_bit_0.1
theorem dX10_bit_1 : decode cX10_bit 1 = .ok (.ifCond .ne 13, 3) := bdX10_bit_0.2.1
theorem dX10_bit_4 : decode cX10_bit 4 = .ok (.iload_n 1, 1) := bdX10_bit_0.2.2.1
theorem dX10_bit_5 : decode cX10_bit 5 = .ok (.ifCond .le 7, 3) := bdX10_bit_0.2.2.2.1
theorem dX10_bit_8 : decode cX10_bit 8 = .ok (.iconst 1, 1) := bdX10_bit_0.2.2.2.2.1
theorem dX10_bit_9 : decode cX10_bit 9 = .ok (.goto 4, 3) := bdX10_bit_0.2.2.2.2.2.1
theorem dX10_bit_12 : decode cX10_bit 12 = .ok (.iconst 0, 1) := bdX10_bit_0.2.2.2.2.2.2.1
theorem dX10_bit_13 : decode cX10_bit 13 = .ok (.ireturn, 1) := bdX10_bit_0.2.2.2.2.2.2.2.1
theorem dX10_bit_14 : decode cX10_bit 14 = .ok (.iload_n 1, 1) := bdX10_bit_0.2.2.2.2.2.2.2.2.1
theorem dX10_bit_15 : decode cX10_bit 15 = .ok (.bipush (-3), 2) := bdX10_bit_0.2.2.2.2.2.2.2.2.2.1
theorem dX10_bit_17 : decode cX10_bit 17 = .ok (.if_icmp .eq 8, 3) := bdX10_bit_0.2.2.2.2.2.2.2.2.2.2.1
theorem dX10_bit_20 : decode cX10_bit 20 = .ok (.iload_n 1, 1) := bdX10_bit_0.2.2.2.2.2.2.2.2.2.2.2.1
theorem dX10_bit_21 : decode cX10_bit 21 = .ok (.iconst 3, 1) := bdX10_bit_0.2.2.2.2.2.2.2.2.2.2.2.2.1
theorem dX10_bit_22 : decode cX10_bit 22 = .ok (.if_icmp .ne 7, 3) := bdX10_bit_0.2.2.2.2.2.2.2.2.2.2.2.2.2.1
theorem dX10_bit_25 : decode cX10_bit 25 = .ok (.iconst 0, 1) := bdX10_bit_0.2.2.2.2.2.2.2.2.2.2.2.2.2.2.1
theorem dX10_bit_26 : decode cX10_bit 26 = .ok (.goto 4, 3) := bdX10_bit_0.2.2.2.2.2.2.2.2.2.2.2.2.2.2.2
theorem dX10_bit_29 : decode cX10_bit 29 = .ok (.iconst 1, 1) := by decide +kernel
theorem dX10_bit_30 : decode cX10_bit 30 = .ok (.ireturn, 1) := by decide +kernel
set_option maxHeartbeats 4000000 in
set_option maxRecDepth 100000 in
theorem k_X10_bit (l : Launch) (dC : Nat → ClassId) (dI : Nat → Nat → Nat) (h : Nat → Nat) (cs : Nat → ClassId) (sz : Nat) (I : Nat → Int32) (L : Nat → Int64) (A : Nat → Nat → Int32) (Q : Nat → Nat → Int64) (x : Int32) (b : Nat) (hb2 : b < 2) : Met l yX10_bit wsX10_bit ({ frames := 0, cells := 0, slots := 0, locals := 0 }) (va_Pc [.ref (h 0), .int x, .int (nI b)] (xPre (dC, dI) (rW h cs I L A Q) (tysA cs) sz)) (va_Qi (fun (r : Int32) (u : RS) => (r = bitF x b) ∧ u = (I, L, A, Q)) (xB (dC, dI) (tysA cs) (va_A (rW h cs I L A Q) sz) (fun u : RS => rW h cs u.1 u.2.1 u.2.2.1 u.2.2.2)) (va_A (rW h cs I L A Q) sz)) 0 0 (va_A (rW h cs I L A Q) sz) := by
  refine Met.ofW (cc := cX10_bit) (maxL := 3) (ret := (some .int)) (by decide) rfl ?_
  intro p e s m args below meth c s₁ B hml hv
  obtain ⟨rfl, hsz, hP, hK, hD0, hN⟩ := hv
  have hx := B.exec
  have hb := B.bytes
  have hr := B.returns
  have hts := atoms_spec (ws := wsX10_bit) B.pre
  have hown : s.vm.findClass RX10 = some m.cls := findClass_of_methodNamed B.named
  have hlocks := B.notSynchronized
  subst hsz
  have hD := hD0.self (sz := s.heap.size)
  generalize hAe : va_A (rW h cs I L A Q) s.heap.size = A0 at hD ⊢
  have hA : ∀ q : Nat, s.heap.size ≤ q → A0 q := fun q h => by rw [← hAe]; exact Or.inr h
  have hl := lv_entry ([.ref (h 0), .int x, .int (nI b)]) (n := 3) (Nat.le_of_ble_eq_true rfl)
  rw [lg_entry_eq]
  generalize (lg_sl ([.ref (h 0), .int x, .int (nI b)]) ++ List.replicate (3 - (lg_sl ([.ref (h 0), .int x, .int (nI b)])).length) Slot.unset).toArray = ls at hl ⊢
  have hl : lv_has ls 3 [(0, .ref (h 0)), (1, .int x), (2, .int (nI b))] := hl
  generalize hH : s.heap = H at hP ⊢
  have hS : va_S A0 s.heap H [] := by rw [← hH]; exact va_S.rf
  refine lv_iload_n hx hb dX10_bit_0 rfl (lv_at hl 2 rfl) ?_
  refine xz_ne (tgt := 14) hx hb dX10_bit_1 (by decide) (by omega) (fun c_1_0 => ?_) (fun c_1_0 => ?_)
  · skip
    refine lv_iload_n hx hb dX10_bit_14 rfl (lv_at hl 1 rfl) ?_
    refine lv_bipush (v := (-3)) hx hb dX10_bit_15 (by decide) ?_
    refine lv_icmp_eq (tgt := 25) hx hb dX10_bit_17 (by decide) (fun c_17_1 => ?_) (fun c_17_1 => ?_)
    · skip
      refine lv_iconst (v := nI 0) hx hb dX10_bit_25 (by decide) ?_
      refine lv_goto (tgt := 30) hx hb dX10_bit_26 (by decide) ?_
      exact xr_i (v := (nI 0)) hx hb hr hlocks hK hS dX10_bit_30 (I, L, A, Q) ⟨(by unfold bitF; first | (rw [if_pos (by assumption), if_pos (by assumption)]) | (rw [if_pos (by assumption), if_neg (by assumption)]) | (rw [if_pos (by assumption), if_neg (Int32.not_lt.mpr (by assumption))]) | (rw [if_pos (by assumption), if_pos (Int32.not_le.mp (by assumption))]) | (rw [if_neg (by assumption), if_pos (Or.inl (by assumption))]) | (rw [if_neg (by assumption), if_pos (Or.inr (by assumption))]) | (rw [if_neg (by assumption), if_neg (fun q => q.elim (by assumption) (by assumption))])), rfl⟩ hP hD
    · skip
      refine lv_iload_n hx hb dX10_bit_20 rfl (lv_at hl 1 rfl) ?_
      refine lv_iconst (v := nI 3) hx hb dX10_bit_21 (by decide) ?_
      refine lv_icmp_ne (tgt := 29) hx hb dX10_bit_22 (by decide) (fun c_22_2 => ?_) (fun c_22_2 => ?_)
      · skip
        refine lv_iconst (v := nI 1) hx hb dX10_bit_29 (by decide) ?_
        exact xr_i (v := (nI 1)) hx hb hr hlocks hK hS dX10_bit_30 (I, L, A, Q) ⟨(by unfold bitF; first | (rw [if_pos (by assumption), if_pos (by assumption)]) | (rw [if_pos (by assumption), if_neg (by assumption)]) | (rw [if_pos (by assumption), if_neg (Int32.not_lt.mpr (by assumption))]) | (rw [if_pos (by assumption), if_pos (Int32.not_le.mp (by assumption))]) | (rw [if_neg (by assumption), if_pos (Or.inl (by assumption))]) | (rw [if_neg (by assumption), if_pos (Or.inr (by assumption))]) | (rw [if_neg (by assumption), if_neg (fun q => q.elim (by assumption) (by assumption))])), rfl⟩ hP hD
      · skip
        refine lv_iconst (v := nI 0) hx hb dX10_bit_25 (by decide) ?_
        refine lv_goto (tgt := 30) hx hb dX10_bit_26 (by decide) ?_
        exact xr_i (v := (nI 0)) hx hb hr hlocks hK hS dX10_bit_30 (I, L, A, Q) ⟨(by unfold bitF; first | (rw [if_pos (by assumption), if_pos (by assumption)]) | (rw [if_pos (by assumption), if_neg (by assumption)]) | (rw [if_pos (by assumption), if_neg (Int32.not_lt.mpr (by assumption))]) | (rw [if_pos (by assumption), if_pos (Int32.not_le.mp (by assumption))]) | (rw [if_neg (by assumption), if_pos (Or.inl (by assumption))]) | (rw [if_neg (by assumption), if_pos (Or.inr (by assumption))]) | (rw [if_neg (by assumption), if_neg (fun q => q.elim (by assumption) (by assumption))])), rfl⟩ hP hD
  · skip
    refine lv_iload_n hx hb dX10_bit_4 rfl (lv_at hl 1 rfl) ?_
    refine lv_if_le (tgt := 12) hx hb dX10_bit_5 (by decide) (fun c_5_3 => ?_) (fun c_5_3 => ?_)
    · skip
      refine lv_iconst (v := nI 0) hx hb dX10_bit_12 (by decide) ?_
      exact xr_i (v := (nI 0)) hx hb hr hlocks hK hS dX10_bit_13 (I, L, A, Q) ⟨(by unfold bitF; first | (rw [if_pos (by assumption), if_pos (by assumption)]) | (rw [if_pos (by assumption), if_neg (by assumption)]) | (rw [if_pos (by assumption), if_neg (Int32.not_lt.mpr (by assumption))]) | (rw [if_pos (by assumption), if_pos (Int32.not_le.mp (by assumption))]) | (rw [if_neg (by assumption), if_pos (Or.inl (by assumption))]) | (rw [if_neg (by assumption), if_pos (Or.inr (by assumption))]) | (rw [if_neg (by assumption), if_neg (fun q => q.elim (by assumption) (by assumption))])), rfl⟩ hP hD
    · skip
      refine lv_iconst (v := nI 1) hx hb dX10_bit_8 (by decide) ?_
      refine lv_goto (tgt := 13) hx hb dX10_bit_9 (by decide) ?_
      exact xr_i (v := (nI 1)) hx hb hr hlocks hK hS dX10_bit_13 (I, L, A, Q) ⟨(by unfold bitF; first | (rw [if_pos (by assumption), if_pos (by assumption)]) | (rw [if_pos (by assumption), if_neg (by assumption)]) | (rw [if_pos (by assumption), if_neg (Int32.not_lt.mpr (by assumption))]) | (rw [if_pos (by assumption), if_pos (Int32.not_le.mp (by assumption))]) | (rw [if_neg (by assumption), if_pos (Or.inl (by assumption))]) | (rw [if_neg (by assumption), if_pos (Or.inr (by assumption))]) | (rw [if_neg (by assumption), if_neg (fun q => q.elim (by assumption) (by assumption))])), rfl⟩ hP hD
