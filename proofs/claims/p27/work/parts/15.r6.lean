
def bt1 (x : Int32) (k : Nat) : Int32 := (x >>> (nI k &&& 31)) &&& nI 1
def aheadP (x y : Int32) (M : Nat) : Prop := ∃ c : Nat, c < M ∧ (∀ t : Nat, t < c → bt1 x t = bt1 y t) ∧ ¬ bt1 x c = bt1 y c ∧ bt1 x c = nI 1
theorem ah_end {x y : Int32} {M k : Nat} (hk : M ≤ k) (h : ∀ t : Nat, t < k → bt1 x t = bt1 y t) : ¬ aheadP x y M := fun ⟨c, hc, _, h2, _⟩ => h2 (h c (by omega))
theorem ah_no {x y : Int32} {M c : Nat} (h : ∀ t : Nat, t < c → bt1 x t = bt1 y t) (hd : ¬ bt1 x c = bt1 y c) (h1 : ¬ bt1 x c = nI 1) : ¬ aheadP x y M := fun ⟨d, hd1, hd2, hd3, hd4⟩ => by
  rcases Nat.lt_trichotomy d c with q | q | q
  · exact hd3 (h d q)
  · subst q
    exact h1 hd4
  · exact hd (hd2 c q)
theorem ah_s {x y : Int32} {k : Nat} (h : ∀ t : Nat, t < k → bt1 x t = bt1 y t) (hk : bt1 x k = bt1 y k) : ∀ t : Nat, t < k + 1 → bt1 x t = bt1 y t := fun t ht => by
  by_cases e : t = k
  · subst e
    exact hk
  · exact h t (by omega)

def ntF (d : Nat → Int32) (x : Int32) : Nat → Int32
  | 0 => -1
  | c + 1 => if bt1 x c = nI 0 ∧ (ntF d x c < 0 ∨ d (ntF d x c).toNatClampNeg < d c) then nI c else ntF d x c
theorem nt_a {d : Nat → Int32} {x b : Int32} {k : Nat} (hbit : bt1 x k = nI 0) (hb : b = ntF d x k) (q : b < 0) : nI k = ntF d x (k + 1) := by rw [ntF, if_pos ⟨hbit, Or.inl (hb ▸ q)⟩]
theorem nt_b {d : Nat → Int32} {x b : Int32} {k j : Nat} (hj : j < 4) (hbit : bt1 x k = nI 0) (hb : b = ntF d x k) (hbj : b = nI j) (q : ¬ d k ≤ d j) : nI k = ntF d x (k + 1) := by
  have h9 : d (ntF d x k).toNatClampNeg < d k := by
    rw [← hb, hbj, nI_clamp (by omega)]
    exact Int32.not_le.mp q
  rw [ntF, if_pos ⟨hbit, Or.inr h9⟩]
theorem nt_c {d : Nat → Int32} {x b : Int32} {k j : Nat} (hj : j < 4) (hb : b = ntF d x k) (hbj : b = nI j) (q : d k ≤ d j) : nI j = ntF d x (k + 1) := by
  rw [ntF, if_neg, ← hb, hbj]
  rintro ⟨-, g | g⟩
  · rw [← hb, hbj] at g
    exact nI_pos (by omega) g
  · rw [← hb, hbj, nI_clamp (by omega)] at g
    exact Int32.not_lt.mpr q g
theorem nt_d {d : Nat → Int32} {x b : Int32} {k : Nat} (hbit : ¬ bt1 x k = nI 0) (hb : b = ntF d x k) : b = ntF d x (k + 1) := by rw [ntF, if_neg (fun g => hbit g.1)]; exact hb

def tkB (d : Nat → Int32) (M : Nat) : Nat → Int32
  | 0 => nI 0
  | k + 1 => tkB d M k ||| (nI 1 <<< (ntF d (tkB d M k) M &&& 31))

def absL (x : Int64) : Int64 := if x < 0 then 0 - x else x
theorem absL_p {x : Int64} (h : 0 ≤ x) : absL x = x := if_neg (Int64.not_lt.mpr h)
theorem absL_n {x : Int64} (h : ¬ 0 ≤ x) : absL x = 0 - x := if_pos (Int64.not_le.mp h)
def nlL (a t : Nat) : Int32 := nI (3 + 2 * t) - nI a
def nlG (up low : Int64) (a : Nat) : Nat → Int32
  | 0 => nI 1 - nI a
  | t + 1 => if absL (up - (nlL a t).toInt64 * low) < absL (up - (nlG up low a t).toInt64 * low) then nlL a t else nlG up low a t
theorem nl_ge {a t : Nat} (ha : a = 2 ∨ a = 4) (ht : t ≤ 4) (h : nI a ≤ nlL a t) : a - 1 ≤ t := by
  have : t = 0 ∨ t = 1 ∨ t = 2 ∨ t = 3 ∨ t = 4 := by omega
  rcases ha with rfl | rfl <;> rcases this with rfl | rfl | rfl | rfl | rfl <;> first | omega | exact absurd h (by decide +kernel)
theorem nl_lt {a t : Nat} (ha : a = 2 ∨ a = 4) (ht : t ≤ 4) (h : ¬ nI a ≤ nlL a t) : t < a - 1 := by
  have : t = 0 ∨ t = 1 ∨ t = 2 ∨ t = 3 ∨ t = 4 := by omega
  rcases ha with rfl | rfl <;> rcases this with rfl | rfl | rfl | rfl | rfl <;> first | omega | exact absurd (by decide +kernel) h
theorem nl_inc {a t : Nat} (ha : a = 2 ∨ a = 4) (ht : t ≤ 4) : nlL a t + Int32.ofInt 2 = nlL a (t + 1) := by
  have : t = 0 ∨ t = 1 ∨ t = 2 ∨ t = 3 ∨ t = 4 := by omega
  rcases ha with rfl | rfl <;> rcases this with rfl | rfl | rfl | rfl | rfl <;> decide +kernel
theorem bdX10_isAhead_0 : (decode cX10_isAhead 0 = .ok (.iconst 0, 1)) ∧ (decode cX10_isAhead 1 = .ok (.istore_n 3, 1)) ∧ (decode cX10_isAhead 2 = .ok (.iload_n 3, 1)) ∧ (decode cX10_isAhead 3 = .ok (.aload_n 0, 1)) ∧ (decode cX10_isAhead 4 = .ok (.getfield 13, 3)) ∧ (decode cX10_isAhead 7 = .ok (.if_icmp .ge 22, 3)) ∧ (decode cX10_isAhead 10 = .ok (.iload_n 1, 1)) ∧ (decode cX10_isAhead 11 = .ok (.iload_n 3, 1)) ∧ (decode cX10_isAhead 12 = .ok (.ishr, 1)) ∧ (decode cX10_isAhead 13 = .ok (.iconst 1, 1)) ∧ (decode cX10_isAhead 14 = .ok (.iand, 1)) ∧ (decode cX10_isAhead 15 = .ok (.iload_n 2, 1)) ∧ (decode cX10_isAhead 16 = .ok (.iload_n 3, 1)) ∧ (decode cX10_isAhead 17 = .ok (.ishr, 1)) ∧ (decode cX10_isAhead 18 = .ok (.iconst 1, 1)) ∧ (decode cX10_isAhead 19 = .ok (.iand, 1)) := by decide +kernel
theorem dX10_isAhead_0 : decode cX10_isAhead 0 = .ok (.iconst 0, 1) := bdX10_isAhead_0.1
theorem dX10_isAhead_1 : decode cX10_isAhead 1 = .ok (.istore_n 3, 1) := bdX10_isAhead_0.2.1
theorem dX10_isAhead_2 : decode cX10_isAhead 2 = .ok (.iload_n 3, 1) := bdX10_isAhead_0.2.2.1
theorem dX10_isAhead_3 : decode cX10_isAhead 3 = .ok (.aload_n 0, 1) := bdX10_isAhead_0.2.2.2.1
theorem dX10_isAhead_4 : decode cX10_isAhead 4 = .ok (.getfield 13, 3) := bdX10_isAhead_0.2.2.2.2.1
theorem dX10_isAhead_7 : decode cX10_isAhead 7 = .ok (.if_icmp .ge 22, 3) := bdX10_isAhead_0.2.2.2.2.2.1
theorem dX10_isAhead_10 : decode cX10_isAhead 10 = .ok (.iload_n 1, 1) := bdX10_isAhead_0.2.2.2.2.2.2.1
theorem dX10_isAhead_11 : decode cX10_isAhead 11 = .ok (.iload_n 3, 1) := bdX10_isAhead_0.2.2.2.2.2.2.2.1
theorem dX10_isAhead_12 : decode cX10_isAhead 12 = .ok (.ishr, 1) := bdX10_isAhead_0.2.2.2.2.2.2.2.2.1
theorem dX10_isAhead_13 : decode cX10_isAhead 13 = .ok (.iconst 1, 1) := bdX10_isAhead_0.2.2.2.2.2.2.2.2.2.1
theorem dX10_isAhead_14 : decode cX10_isAhead 14 = .ok (.iand, 1) := bdX10_isAhead_0.2.2.2.2.2.2.2.2.2.2.1
theorem dX10_isAhead_15 : decode cX10_isAhead 15 = .ok (.iload_n 2, 1) := bdX10_isAhead_0.2.2.2.2.2.2.2.2.2.2.2.1
theorem dX10_isAhead_16 : decode cX10_isAhead 16 = .ok (.iload_n 3, 1) := bdX10_isAhead_0.2.2.2.2.2.2.2.2.2.2.2.2.1
theorem dX10_isAhead_17 : decode cX10_isAhead 17 = .ok (.ishr, 1) := bdX10_isAhead_0.2.2.2.2.2.2.2.2.2.2.2.2.2.1
theorem dX10_isAhead_18 : decode cX10_isAhead 18 = .ok (.iconst 1, 1) := bdX10_isAhead_0.2.2.2.2.2.2.2.2.2.2.2.2.2.2.1
theorem dX10_isAhead_19 : decode cX10_isAhead 19 = .ok (.iand, 1) := bdX10_isAhead_0.2.2.2.2.2.2.2.2.2.2.2.2.2.2.2
theorem bdX10_isAhead_20 : (decode cX10_isAhead 20 = .ok (.if_icmp .ne 9, 3)) ∧ (decode cX10_isAhead 23 = .ok (.iinc 3 1, 3)) ∧ (decode cX10_isAhead 26 = .ok (.goto (-24), 3)) ∧ (decode cX10_isAhead 29 = .ok (.iload_n 3, 1)) ∧ (decode cX10_isAhead 30 = .ok (.aload_n 0, 1)) ∧ (decode cX10_isAhead 31 = .ok (.getfield 13, 3)) ∧ (decode cX10_isAhead 34 = .ok (.if_icmp .ge 16, 3)) ∧ (decode cX10_isAhead 37 = .ok (.iload_n 1, 1)) ∧ (decode cX10_isAhead 38 = .ok (.iload_n 3, 1)) ∧ (decode cX10_isAhead 39 = .ok (.ishr, 1)) ∧ (decode cX10_isAhead 40 = .ok (.iconst 1, 1)) ∧ (decode cX10_isAhead 41 = .ok (.iand, 1)) ∧ (decode cX10_isAhead 42 = .ok (.iconst 1, 1)) ∧ (decode cX10_isAhead 43 = .ok (.if_icmp .ne 7, 3)) ∧ (decode cX10_isAhead 46 = .ok (.iconst 1, 1)) ∧ (decode cX10_isAhead 47 = .ok (.goto 4, 3)) := by decide +kernel
theorem dX10_isAhead_20 : decode cX10_isAhead 20 = .ok (.if_icmp .ne 9, 3) := bdX10_isAhead_20.1
theorem dX10_isAhead_23 : decode cX10_isAhead 23 = .ok (.iinc 3 1, 3) := bdX10_isAhead_20.2.1
theorem dX10_isAhead_26 : decode cX10_isAhead 26 = .ok (.goto (-24), 3) := bdX10_isAhead_20.2.2.1
theorem dX10_isAhead_29 : decode cX10_isAhead 29 = .ok (.iload_n 3, 1) := bdX10_isAhead_20.2.2.2.1
theorem dX10_isAhead_30 : decode cX10_isAhead 30 = .ok (.aload_n 0, 1) := bdX10_isAhead_20.2.2.2.2.1
theorem dX10_isAhead_31 : decode cX10_isAhead 31 = .ok (.getfield 13, 3) := bdX10_isAhead_20.2.2.2.2.2.1
theorem dX10_isAhead_34 : decode cX10_isAhead 34 = .ok (.if_icmp .ge 16, 3) := bdX10_isAhead_20.2.2.2.2.2.2.1
theorem dX10_isAhead_37 : decode cX10_isAhead 37 = .ok (.iload_n 1, 1) := bdX10_isAhead_20.2.2.2.2.2.2.2.1
theorem dX10_isAhead_38 : decode cX10_isAhead 38 = .ok (.iload_n 3, 1) := bdX10_isAhead_20.2.2.2.2.2.2.2.2.1
theorem dX10_isAhead_39 : decode cX10_isAhead 39 = .ok (.ishr, 1) := bdX10_isAhead_20.2.2.2.2.2.2.2.2.2.1
theorem dX10_isAhead_40 : decode cX10_isAhead 40 = .ok (.iconst 1, 1) := bdX10_isAhead_20.2.2.2.2.2.2.2.2.2.2.1
theorem dX10_isAhead_41 : decode cX10_isAhead 41 = .ok (.iand, 1) := bdX10_isAhead_20.2.2.2.2.2.2.2.2.2.2.2.1
theorem dX10_isAhead_42 : decode cX10_isAhead 42 = .ok (.iconst 1, 1) := bdX10_isAhead_20.2.2.2.2.2.2.2.2.2.2.2.2.1
theorem dX10_isAhead_43 : decode cX10_isAhead 43 = .ok (.if_icmp .ne 7, 3) := bdX10_isAhead_20.2.2.2.2.2.2.2.2.2.2.2.2.2.1
theorem dX10_isAhead_46 : decode cX10_isAhead 46 = .ok (.iconst 1, 1) := bdX10_isAhead_20.2.2.2.2.2.2.2.2.2.2.2.2.2.2.1
theorem dX10_isAhead_47 : decode cX10_isAhead 47 = .ok (.goto 4, 3) := bdX10_isAhead_20.2.2.2.2.2.2.2.2.2.2.2.2.2.2.2
theorem dX10_isAhead_50 : decode cX10_isAhead 50 = .ok (.iconst 0, 1) := by decide +kernel
theorem dX10_isAhead_51 : decode cX10_isAhead 51 = .ok (.ireturn, 1) := by decide +kernel
set_option maxHeartbeats 4000000 in
set_option maxRecDepth 100000 in
theorem k_X10_isAhead (l : Launch) (dC : Nat → ClassId) (dI : Nat → Nat → Nat) (h : Nat → Nat) (cs : Nat → ClassId) (sz : Nat) (I : Nat → Int32) (L : Nat → Int64) (A : Nat → Nat → Int32) (Q : Nat → Nat → Int64) (x y : Int32) (M : Nat) (hM : I 1 = nI M) (hM1 : 1 ≤ M) (hM4 : M ≤ 4) : Met l yX10_isAhead wsX10_isAhead ({ frames := 0, cells := 0, slots := 0, locals := 0 }) (va_Pc [.ref (h 0), .int x, .int y] (xPre (dC, dI) (rW h cs I L A Q) (tysA cs) sz)) (va_Qi (fun (r : Int32) (u : RS) => ((r = nI 1 ∧ aheadP x y M) ∨ (r = nI 0 ∧ ¬ aheadP x y M)) ∧ u = (I, L, A, Q)) (xB (dC, dI) (tysA cs) (va_A (rW h cs I L A Q) sz) (fun u : RS => rW h cs u.1 u.2.1 u.2.2.1 u.2.2.2)) (va_A (rW h cs I L A Q) sz)) 0 0 (va_A (rW h cs I L A Q) sz) := by
  refine Met.ofW (cc := cX10_isAhead) (maxL := 4) (ret := (some .boolean)) (by decide) rfl ?_
  intro p e s m args below meth c s₁ B hml hv
  obtain ⟨rfl, hsz, hP, hK, hD0, hN⟩ := hv
  have hx := B.exec
  have hb := B.bytes
  have hr := B.returns
  have hts := atoms_spec (ws := wsX10_isAhead) B.pre
  have hown : s.vm.findClass RX10 = some m.cls := findClass_of_methodNamed B.named
  have hlocks := B.notSynchronized
  subst hsz
  have hD := hD0.self (sz := s.heap.size)
  generalize hAe : va_A (rW h cs I L A Q) s.heap.size = A0 at hD ⊢
  have hA : ∀ q : Nat, s.heap.size ≤ q → A0 q := fun q h => by rw [← hAe]; exact Or.inr h
  have hl := lv_entry ([.ref (h 0), .int x, .int y]) (n := 4) (Nat.le_of_ble_eq_true rfl)
  rw [lg_entry_eq]
  generalize (lg_sl ([.ref (h 0), .int x, .int y]) ++ List.replicate (4 - (lg_sl ([.ref (h 0), .int x, .int y])).length) Slot.unset).toArray = ls at hl ⊢
  have hl : lv_has ls 4 [(0, .ref (h 0)), (1, .int x), (2, .int y)] := hl
  generalize hH : s.heap = H at hP ⊢
  have hS : va_S A0 s.heap H [] := by rw [← hH]; exact va_S.rf
  have hinX10 : ∀ w ∈ wsX100, w ∈ wsX10_isAhead := by decide +kernel
  refine lv_iconst (v := nI 0) hx hb dX10_isAhead_0 (by decide) ?_
  refine lv_istore_n (lv' := [(3, .int (nI 0)), (0, .ref (h 0)), (1, .int x), (2, .int y)]) hx hb dX10_isAhead_1 rfl hl (by decide) rfl (fun ls hl => ?_)
  have cut_2 : ∀ (nf : Nat) (c3 : Nat), (M - c3) < nf → (c3 ≤ M) → (∀ t : Nat, t < c3 → bt1 x t = bt1 y t) → ∀ (H : Heap) (locs : List Loc) (ls : Array Slot), va_P (dC, dI) vwCl (rW h cs I L A Q) H → va_D A0 (rW h cs I L A Q) → va_S A0 s.heap H locs → lv_has ls 4 [(0, .ref (h 0)), (1, .int x), (2, .int y), (3, .int (nI c3))] → W p l e (headSpec wsX10_isAhead ({ frames := 0, cells := 0, slots := 0, locals := 0 })).room s m ([.ref (h 0), .int x, .int y] : List Value).toArray below meth c H locs 0 0 (MQ below (va_Qi (fun (r : Int32) (u : RS) => ((r = nI 1 ∧ aheadP x y M) ∨ (r = nI 0 ∧ ¬ aheadP x y M)) ∧ u = (I, L, A, Q)) (xB (dC, dI) (tysA cs) A0 (fun u : RS => rW h cs u.1 u.2.1 u.2.2.1 u.2.2.2)) A0) ([.ref (h 0), .int x, .int y] : List Value).toArray s 0 0 A0) (F0 m 2 ls []) := by
    intro nf
    induction nf with
    | zero => intro c3 hm; exact absurd hm (Nat.not_lt_zero _)
    | succ nf ih_2 =>
      intro c3 hm_2 hc_2 h_2 H locs ls hP hD hS hl
      refine lv_iload_n hx hb dX10_isAhead_2 rfl (lv_at hl 3 rfl) ?_
      refine lv_aload_n hx hb dX10_isAhead_3 rfl (lv_at hl 0 rfl) ?_
      refine va_get (D := (dC, dI)) (ci := 10) (v := .int (I 1)) (C := RX10) (T := TX10) (N := 28) hx hb hts hinX10 hown hK hP 0 rfl rfl 1 (by decide) (hts (.fieldLink RX10 13 "MixedWordsModel" "columns" "I") (by decide +kernel)) (fun _ h9 => h9) rfl dX10_isAhead_4 ?_
      refine xt_i (y := nI M) (hM) ?_
      refine xn_ge (tgt := 29) hx hb dX10_isAhead_7 (by decide) (by omega) (by omega) (fun c_7_0 => ?_) (fun c_7_0 => ?_)
      · skip
        refine lv_iload_n hx hb dX10_isAhead_29 rfl (lv_at hl 3 rfl) ?_
        refine lv_aload_n hx hb dX10_isAhead_30 rfl (lv_at hl 0 rfl) ?_
        refine va_get (D := (dC, dI)) (ci := 10) (v := .int (I 1)) (C := RX10) (T := TX10) (N := 28) hx hb hts hinX10 hown hK hP 0 rfl rfl 1 (by decide) (hts (.fieldLink RX10 13 "MixedWordsModel" "columns" "I") (by decide +kernel)) (fun _ h9 => h9) rfl dX10_isAhead_31 ?_
        refine xt_i (y := nI M) (hM) ?_
        refine xn_geT (tgt := 50) hx hb dX10_isAhead_34 (by decide) (by omega) (by omega) (by omega) ?_
        refine lv_iconst (v := nI 0) hx hb dX10_isAhead_50 (by decide) ?_
        exact xr_z (v := (nI 0)) hx hb hr hlocks hK hS dX10_isAhead_51 (rfl) (I, L, A, Q) ⟨(Or.inr ⟨rfl, ah_end (by omega) h_2⟩), rfl⟩ hP hD
      · skip
        refine lv_iload_n hx hb dX10_isAhead_10 rfl (lv_at hl 1 rfl) ?_
        refine lv_iload_n hx hb dX10_isAhead_11 rfl (lv_at hl 3 rfl) ?_
        refine lv_ishr hx hb dX10_isAhead_12 ?_
        refine lv_iconst (v := nI 1) hx hb dX10_isAhead_13 (by decide) ?_
        refine lv_iand hx hb dX10_isAhead_14 ?_
        refine lv_iload_n hx hb dX10_isAhead_15 rfl (lv_at hl 2 rfl) ?_
        refine lv_iload_n hx hb dX10_isAhead_16 rfl (lv_at hl 3 rfl) ?_
        refine lv_ishr hx hb dX10_isAhead_17 ?_
        refine lv_iconst (v := nI 1) hx hb dX10_isAhead_18 (by decide) ?_
        refine lv_iand hx hb dX10_isAhead_19 ?_
        refine lv_icmp_ne (tgt := 29) hx hb dX10_isAhead_20 (by decide) (fun c_20_2 => ?_) (fun c_20_2 => ?_)
        · skip
          have hdiff : ¬ bt1 x c3 = bt1 y c3 := c_20_2
          refine lv_iload_n hx hb dX10_isAhead_29 rfl (lv_at hl 3 rfl) ?_
          refine lv_aload_n hx hb dX10_isAhead_30 rfl (lv_at hl 0 rfl) ?_
          refine va_get (D := (dC, dI)) (ci := 10) (v := .int (I 1)) (C := RX10) (T := TX10) (N := 28) hx hb hts hinX10 hown hK hP 0 rfl rfl 1 (by decide) (hts (.fieldLink RX10 13 "MixedWordsModel" "columns" "I") (by decide +kernel)) (fun _ h9 => h9) rfl dX10_isAhead_31 ?_
          refine xt_i (y := nI M) (hM) ?_
          refine xn_geF (tgt := 50) hx hb dX10_isAhead_34 (by decide) (by omega) (by omega) (by omega) ?_
          refine lv_iload_n hx hb dX10_isAhead_37 rfl (lv_at hl 1 rfl) ?_
          refine lv_iload_n hx hb dX10_isAhead_38 rfl (lv_at hl 3 rfl) ?_
          refine lv_ishr hx hb dX10_isAhead_39 ?_
          refine lv_iconst (v := nI 1) hx hb dX10_isAhead_40 (by decide) ?_
          refine lv_iand hx hb dX10_isAhead_41 ?_
          refine lv_iconst (v := nI 1) hx hb dX10_isAhead_42 (by decide) ?_
          refine lv_icmp_ne (tgt := 50) hx hb dX10_isAhead_43 (by decide) (fun c_43_4 => ?_) (fun c_43_4 => ?_)
          · skip
            refine lv_iconst (v := nI 0) hx hb dX10_isAhead_50 (by decide) ?_
            exact xr_z (v := (nI 0)) hx hb hr hlocks hK hS dX10_isAhead_51 (rfl) (I, L, A, Q) ⟨(Or.inr ⟨rfl, ah_no h_2 hdiff (by assumption)⟩), rfl⟩ hP hD
          · skip
            refine lv_iconst (v := nI 1) hx hb dX10_isAhead_46 (by decide) ?_
            refine lv_goto (tgt := 51) hx hb dX10_isAhead_47 (by decide) ?_
            exact xr_z (v := (nI 1)) hx hb hr hlocks hK hS dX10_isAhead_51 (rfl) (I, L, A, Q) ⟨(Or.inl ⟨rfl, c3, by omega, h_2, hdiff, by assumption⟩), rfl⟩ hP hD
        · skip
          have hsame : bt1 x c3 = bt1 y c3 := c_20_2
          refine lv_iinc (v := nI (c3 + 1)) (lv' := [(3, .int (nI (c3 + 1))), (0, .ref (h 0)), (1, .int x), (2, .int y)]) hx hb dX10_isAhead_23 hl (k := 3) rfl (nI_1 _) (by decide) rfl (fun ls hl => ?_)
          refine lv_goto (tgt := 2) hx hb dX10_isAhead_26 (by decide) ?_
          exact ih_2 (c3 + 1) (by omega) (by first | assumption | omega) (by first | exact (fun t ht => absurd ht (Nat.not_lt_zero t)) | exact ah_s h_2 hsame) _ _ _ hP hD hS (lv_sub hl [1, 2, 3, 0] rfl)
  exact cut_2 _ 0 (Nat.lt_succ_self _) (by first | assumption | omega) (by first | exact (fun t ht => absurd ht (Nat.not_lt_zero t)) | exact ah_s h_2 hsame) _ _ _ hP hD hS (lv_sub hl [1, 2, 3, 0] rfl)
