
def bt1 (x : Int32) (k : Nat) : Int32 := (x >>> (nI k &&& 31)) &&& nI 1
def aheadP (x y : Int32) (M : Nat) : Prop := ∃ c : Nat, c < M ∧ (∀ t : Nat, t < c → bt1 x t = bt1 y t) ∧ ¬ bt1 x c = bt1 y c ∧ bt1 x c = nI 1
theorem ah_end {x y : Int32} {M k : Nat} (hk : M ≤ k) (h : ∀ t : Nat, t < k → bt1 x t = bt1 y t) : ¬ aheadP x y M := fun ⟨c, hc, _, h2, _⟩ => h2 (h c (by omega))
theorem ah_no {x y : Int32} {M c : Nat} (h : ∀ t : Nat, t < c → bt1 x t = bt1 y t) (hd : ¬ bt1 x c = bt1 y c) (h1 : ¬ bt1 x c = nI 1) : ¬ aheadP x y M := fun ⟨d, hd1, hd2, hd3, hd4⟩ => by
  rcases Nat.lt_trichotomy d c with q | q | q
  · exact hd3 (h d q)
  · subst q
    exact h1 hd4
  · exact hd (hd2 c q)
theorem ah_s {x y : Int32} {k : Nat} (h : ∀ t : Nat, t < k → bt1 x t = bt1 y t) (hk : bt1 x k = bt1 y k) : ∀ t : Nat, t < k + 1 → bt1 x t = bt1 y t := fun t ht => by
  by_cases e : t = k
  · subst e
    exact hk
  · exact h t (by omega)

def ntF (d : Nat → Int32) (x : Int32) : Nat → Int32
  | 0 => -1
  | c + 1 => if bt1 x c = nI 0 ∧ (ntF d x c < 0 ∨ d (ntF d x c).toNatClampNeg < d c) then nI c else ntF d x c
theorem nt_a {d : Nat → Int32} {x b : Int32} {k : Nat} (hbit : bt1 x k = nI 0) (hb : b = ntF d x k) (q : b < 0) : nI k = ntF d x (k + 1) := by rw [ntF, if_pos ⟨hbit, Or.inl (hb ▸ q)⟩]
theorem nt_b {d : Nat → Int32} {x b : Int32} {k j : Nat} (hj : j < 4) (hbit : bt1 x k = nI 0) (hb : b = ntF d x k) (hbj : b = nI j) (q : ¬ d k ≤ d j) : nI k = ntF d x (k + 1) := by
  have h9 : d (ntF d x k).toNatClampNeg < d k := by
    rw [← hb, hbj, nI_clamp (by omega)]
    exact Int32.not_le.mp q
  rw [ntF, if_pos ⟨hbit, Or.inr h9⟩]
theorem nt_c {d : Nat → Int32} {x b : Int32} {k j : Nat} (hj : j < 4) (hb : b = ntF d x k) (hbj : b = nI j) (q : d k ≤ d j) : nI j = ntF d x (k + 1) := by
  rw [ntF, if_neg, ← hb, hbj]
  rintro ⟨-, g | g⟩
  · rw [← hb, hbj] at g
    exact nI_pos (by omega) g
  · rw [← hb, hbj, nI_clamp (by omega)] at g
    exact Int32.not_lt.mpr q g
theorem nt_d {d : Nat → Int32} {x b : Int32} {k : Nat} (hbit : ¬ bt1 x k = nI 0) (hb : b = ntF d x k) : b = ntF d x (k + 1) := by rw [ntF, if_neg (fun g => hbit g.1)]; exact hb

def tkB (d : Nat → Int32) (M : Nat) : Nat → Int32
  | 0 => nI 0
  | k + 1 => tkB d M k ||| (nI 1 <<< (ntF d (tkB d M k) M &&& 31))

def absL (x : Int64) : Int64 := if x < 0 then 0 - x else x
theorem absL_p {x : Int64} (h : 0 ≤ x) : absL x = x := if_neg (Int64.not_lt.mpr h)
theorem absL_n {x : Int64} (h : ¬ 0 ≤ x) : absL x = 0 - x := if_pos (Int64.not_le.mp h)
def nlL (a t : Nat) : Int32 := nI (3 + 2 * t) - nI a
def nlG (up low : Int64) (a : Nat) : Nat → Int32
  | 0 => nI 1 - nI a
  | t + 1 => if absL (up - (nlL a t).toInt64 * low) < absL (up - (nlG up low a t).toInt64 * low) then nlL a t else nlG up low a t
theorem nl_ge {a t : Nat} (ha : a = 2 ∨ a = 4) (ht : t ≤ 4) (h : nI a ≤ nlL a t) : a - 1 ≤ t := by
  have : t = 0 ∨ t = 1 ∨ t = 2 ∨ t = 3 ∨ t = 4 := by omega
  rcases ha with rfl | rfl <;> rcases this with rfl | rfl | rfl | rfl | rfl <;> first | omega | exact absurd h (by decide +kernel)
theorem nl_lt {a t : Nat} (ha : a = 2 ∨ a = 4) (ht : t ≤ 4) (h : ¬ nI a ≤ nlL a t) : t < a - 1 := by
  have : t = 0 ∨ t = 1 ∨ t = 2 ∨ t = 3 ∨ t = 4 := by omega
  rcases ha with rfl | rfl <;> rcases this with rfl | rfl | rfl | rfl | rfl <;> first | omega | exact absurd (by decide +kernel) h
theorem nl_inc {a t : Nat} (ha : a = 2 ∨ a = 4) (ht : t ≤ 4) : nlL a t + Int32.ofInt 2 = nlL a (t + 1) := by
  have : t = 0 ∨ t = 1 ∨ t = 2 ∨ t = 3 ∨ t = 4 := by omega
  rcases ha with rfl | rfl <;> rcases this with rfl | rfl | rfl | rfl | rfl <;> decide +kernel
theorem bdX10_isAhead_0 : (decode cX10_isAhead 0 = .ok (.iconst 0, 1)) ∧ (decode cX10_isAhead 1 = .ok (.istore_n 3, 1)) ∧ (decode cX10_isAhead 2 = .ok (.iload_n 3, 1)) ∧ (decode cX10_isAhead 3 = .ok (.aload_n 0, 1)) ∧ (decode cX10_isAhead 4 = .ok (.getfield 13, 3)) ∧ (decode cX10_isAhead 7 = .ok (.if_icmp .ge 22, 3)) ∧ (decode cX10_isAhead 10 = .ok (.iload_n 1, 1)) ∧ (decode cX10_isAhead 11 = .ok (.iload_n 3, 1)) ∧ (decode cX10_isAhead 12 = .ok (.ishr, 1)) ∧ (decode cX10_isAhead 13 = .ok (.iconst 1, 1)) ∧ (decode cX10_isAhead 14 = .ok (.iand, 1)) ∧ (decode cX10_isAhead 15 = .ok (.iload_n 2, 1)) ∧ (decode cX10_isAhead 16 = .ok (.iload_n 3, 1)) ∧ (decode cX10_isAhead 17 = .ok (.ishr, 1)) ∧ (decode cX10_isAhead 18 = .ok (.iconst 1, 1)) ∧ (decode cX10_isAhead 19 = .ok (.iand, 1)) := by decide +kernel
theorem dX10_isAhead_0 : decode cX10_isAhead 0 = .ok (.iconst 0, 1) := bdX10_isAhead_0.1
theorem dX10_isAhead_1 : decode cX10_isAhead 1 = .ok (.istore_n 3, 1) := bdX10_isAhead_0.2.1
theorem dX10_isAhead_2 : decode cX10_isAhead 2 = .ok (.iload_n 3, 1) := bdX10_isAhead_0.2.2.1
theorem dX10_isAhead_3 : decode cX10_isAhead 3 = .ok (.aload_n 0, 1) := bdX10_isAhead_0.2.2.2.1
theorem dX10_isAhead_4 : decode cX10_isAhead 4 = .ok (.getfield 13, 3) := bdX10_isAhead_0.2.2.2.2.1
theorem dX10_isAhead_7 : decode cX10_isAhead 7 = .ok (.if_icmp .ge 22, 3) := bdX10_isAhead_0.2.2.2.2.2.1
theorem dX10_isAhead_10 : decode cX10_isAhead 10 = .ok (.iload_n 1, 1) := bdX10_isAhead_0.2.2.2.2.2.2.1
theorem dX10_isAhead_11 : decode cX10_isAhead 11 = .ok (.iload_n 3, 1) := bdX10_isAhead_0.2.2.2.2.2.2.2.1
theorem dX10_isAhead_12 : decode cX10_isAhead 12 = .ok (.ishr, 1) := bdX10_isAhead_0.2.2.2.2.2.2.2.2.1
theorem dX10_isAhead_13 : decode cX10_isAhead 13 = .ok (.iconst 1, 1) := bdX10_isAhead_0.2.2.2.2.2.2.2.2.2.1
theorem dX10_isAhead_14 : decode cX10_isAhead 14 = .ok (.iand, 1) := bdX10_isAhead_0.2.2.2.2.2.2.2.2.2.2.1
theorem dX10_isAhead_15 : decode cX10_isAhead 15 = .ok (.iload_n 2, 1) := bdX10_isAhead_0.2.2.2.2.2.2.2.2.2.2.2.1
theorem dX10_isAhead_16 : decode cX10_isAhead 16 = .ok (.iload_n 3, 1) := bdX10_isAhead_0.2.2.2.2.2.2.2.2.2.2.2.2.1
theorem dX10_isAhead_17 : decode cX10_isAhead 17 = .ok (.ishr, 1) := bdX10_isAhead_0.2.2.2.2.2.2.2.2.2.2.2.2.2.1
theorem dX10_isAhead_18 : decode cX10_isAhead 18 = .ok (.iconst 1, 1) := bdX10_isAhead_0.2.2.2.2.2.2.2.2.2.2.2.2.2.2.1
theorem dX10_isAhead_19 : decode cX10_isAhead 19 = .ok (.iand, 1) := bdX10_isAhead_0.2.2.2.2.2.2.2.2.2.2.2.2.2.2.2
theorem bdX10_isAhead_20 : (decode cX10_isAhead 20 = .ok (.if_icmp .ne 9, 3)) ∧ (decode cX10_isAhead 23 = .ok (.iinc 3 1, 3)) ∧ (decode cX10_isAhead 26 = .ok (.goto (-24), 3)) ∧ (decode cX10_isAhead 29 = .ok (.iload_n 3, 1)) ∧ (decode cX10_isAhead 30 = .ok (.aload_n 0, 1)) ∧ (decode cX10_isAhead 31 = .ok (.getfield 13, 3)) ∧ (decode cX10_isAhead 34 = .ok (.if_icmp .ge 16, 3)) ∧ (decode cX10_isAhead 37 = .ok (.iload_n 1, 1)) ∧ (decode cX10_isAhead 38 = .ok (.iload_n 3, 1)) ∧ (decode cX10_isAhead 39 = .ok (.ishr, 1)) ∧ (decode cX10_isAhead 40 = .ok (.iconst 1, 1)) ∧ (decode cX10_isAhead 41 = .ok (.iand, 1)) ∧ (decode cX10_isAhead 42 = .ok (.iconst 1, 1)) ∧ (decode cX10_isAhead 43 = .ok (.if_icmp .ne 7, 3)) ∧ (decode cX10_isAhead 46 = .ok (.iconst 1, 1)) ∧ (decode cX10_isAhead 47 = .ok (.goto 4, 3)) := by decide +kernel
theorem dX10_isAhead_20 : decode cX10_isAhead 20 = .ok (.if_icmp .ne 9, 3) := bdX10_isAhead_20.1
theorem dX10_isAhead_23 : decode cX10_isAhead 23 = .ok (.iinc 3 1, 3) := bdX10_isAhead_20.2.1
theorem dX10_isAhead_26 : decode cX10_isAhead 26 = .ok (.goto (-24), 3) := bdX10_isAhead_20.2.2.1
theorem dX10_isAhead_29 : decode cX10_isAhead 29 = .ok (.iload_n 3, 1) := bdX10_isAhead_20.2.2.2.1
theorem dX10_isAhead_30 : decode cX10_isAhead 30 = .ok (.aload_n 0, 1) := bdX10_isAhead_20.2.2.2.2.1
theorem dX10_isAhead_31 : decode cX10_isAhead 31 = .ok (.getfield 13, 3) := bdX10_isAhead_20.2.2.2.2.2.1
theorem dX10_isAhead_34 : decode cX10_isAhead 34 = .ok (.if_icmp .ge 16, 3) := bdX10_isAhead_20.2.2.2.2.2.2.1
theorem dX10_isAhead_37 : decode cX10_isAhead 37 = .ok (.iload_n 1, 1) := bdX10_isAhead_20.2.2.2.2.2.2.2.1
theorem dX10_isAhead_38 : decode cX10_isAhead 38 = .ok (.iload_n 3, 1) := bdX10_isAhead_20.2.2.2.2.2.2.2.2.1
theorem dX10_isAhead_39 : decode cX10_isAhead 39 = .ok (.ishr, 1) := bdX10_isAhead_20.2.2.2.2.2.2.2.2.2.1
theorem dX10_isAhead_40 : decode cX10_isAhead 40 = .ok (.iconst 1, 1) := bdX10_isAhead_20.2.2.2.2.2.2.2.2.2.2.1
theorem dX10_isAhead_41 : decode cX10_isAhead 41 = .ok (.iand, 1) := bdX10_isAhead_20.2.2.2.2.2.2.2.2.2.2.2.1
theorem dX10_isAhead_42 : decode cX10_isAhead 42 = .ok (.iconst 1, 1) := bdX10_isAhead_20.2.2.2.2.2.2.2.2.2.2.2.2.1
theorem dX10_isAhead_43 : decode cX10_isAhead 43 = .ok (.if_icmp .ne 7, 3) := bdX10_isAhead_20.2.2.2.2.2.2.2.2.2.2.2.2.2.1
theorem dX10_isAhead_46 : decode cX10_isAhead 46 = .ok (.iconst 1, 1) := bdX10_isAhead_20.2.2.2.2.2.2.2.2.2.2.2.2.2.2.1
theorem dX10_isAhead_47 : decode cX10_isAhead 47 = .ok (.goto 4, 3) := bdX10_isAhead_20.2.2.2.2.2.2.2.2.2.2.2.2.2.2.2
theorem dX10_isAhead_50 : decode cX10_isAhead 50 = .ok (.iconst 0, 1) := by decide +kernel
theorem dX10_isAhead_51 : decode cX10_isAhead 51 = .ok (.ireturn, 1) := by decide +kernel
set_option maxHeartbeats 4000000 in
set_option maxRecDepth 100000 in
theorem k_X10_isAhead (l : Launch) (dC : Nat → ClassId) (dI : Nat → Nat → Nat) (h : Nat → Nat) (cs : Nat → ClassId) (sz : Nat) (I : Nat → Int32) (L : Nat → Int64) (A : Nat → Nat → Int32) (Q : Nat → Nat → Int64) (x y : Int32) (M : Nat) (hM : I 1 = nI M) (hM1 : 1 ≤ M) (hM4 : M ≤ 4) : Met l yX10_isAhead wsX10_isAhead ({ frames := 0, cells := 0, slots := 0, locals := 0 }) (va_Pc [.ref (h 0), .int x, .int y] (xPre (dC, dI) (rW h cs I L A Q) (tysA cs) sz)) (va_Qi (fun (r : Int32) (u : RS) => ((r = nI 1 ∧ aheadP x y M) ∨ (r = nI 0 ∧ ¬ aheadP x y M)) ∧ u = (I, L, A, Q)) (xB (dC, dI) (tysA cs) (va_A (rW h cs I L A Q) sz) (fun u : RS => rW h cs u.1 u.2.1 u.2.2.1 u.2.2.2)) (va_A (rW h cs I L A Q) sz)) 0 0 (va_A (rW h cs I L A Q) sz) := by
  refine Met.ofW (cc := cX10_isAhead) (maxL := 4) (ret := (some .boolean)) (by decide) rfl ?_
  intro p e s m args below meth c s₁ B hml hv
  obtain ⟨rfl, hsz, hP, hK, hD0, hN⟩ := hv
  have hx := B.exec
  have hb := B.bytes
  have hr := B.returns
  have hts := atoms_spec (ws := wsX10_isAhead) B.pre
  have hown : s.vm.findClass RX10 = some m.cls := findClass_of_methodNamed B.named
  have hlocks := B.notSynchronized
  subst hsz
  have hD := hD0.self (sz := s.heap.size)
  generalize hAe : va_A (rW h cs I L A Q) s.heap.size = A0 at hD ⊢
  have hA : ∀ q : Nat, s.heap.size ≤ q → A0 q := fun q h => by rw [← hAe]; exact Or.inr h
  have hl := lv_entry ([.ref (h 0), .int x, .int y]) (n := 4) (Nat.le_of_ble_eq_true rfl)
  rw [lg_entry_eq]
  generalize (lg_sl ([.ref (h 0), .int x, .int y]) ++ List.replicate (4 - (lg_sl ([.ref (h 0), .int x, .int y])).length) Slot.unset).toArray = ls at hl ⊢
  have hl : lv_has ls 4 [(0, .ref (h 0)), (1, .int x), (2, .int y)] := hl
  generalize hH : s.heap = H at hP ⊢
  have hS : va_S A0 s.heap H [] := by rw [← hH]; exact va_S.rf
  have hinX10 : ∀ w ∈ wsX100, w ∈ wsX10_isAhead := by decide +kernel
  refine lv_iconst (v := nI 0) hx hb dX10_isAhead_0 (by decide) ?_
  refine lv_istore_n (lv' := [(3, .int (nI 0)), (0, .ref (h 0)), (1, .int x), (2, .int y)]) hx hb dX10_isAhead_1 rfl hl (by decide) rfl (fun ls hl => ?_)
  have cut_2 : ∀ (nf : Nat) (c3 : Nat), (M - c3) < nf → (c3 ≤ M) → (∀ t : Nat, t < c3 → bt1 x t = bt1 y t) → ∀ (H : Heap) (locs : List Loc) (ls : Array Slot), va_P (dC, dI) vwCl (rW h cs I L A Q) H → va_D A0 (rW h cs I L A Q) → va_S A0 s.heap H locs → lv_has ls 4 [(0, .ref (h 0)), (1, .int x), (2, .int y), (3, .int (nI c3))] → W p l e (headSpec wsX10_isAhead ({ frames := 0, cells := 0, slots := 0, locals := 0 })).room s m ([.ref (h 0), .int x, .int y] : List Value).toArray below meth c H locs 0 0 (MQ below (va_Qi (fun (r : Int32) (u : RS) => ((r = nI 1 ∧ aheadP x y M) ∨ (r = nI 0 ∧ ¬ aheadP x y M)) ∧ u = (I, L, A, Q)) (xB (dC, dI) (tysA cs) A0 (fun u : RS => rW h cs u.1 u.2.1 u.2.2.1 u.2.2.2)) A0) ([.ref (h 0), .int x, .int y] : List Value).toArray s 0 0 A0) (F0 m 2 ls []) := by
    intro nf
    induction nf with
    | zero => intro c3 hm; exact absurd hm (Nat.not_lt_zero _)
    | succ nf ih_2 =>
      intro c3 hm_2 hc_2 h_2 H locs ls hP hD hS hl
      refine lv_iload_n hx hb dX10_isAhead_2 rfl (lv_at hl 3 rfl) ?_
      refine lv_aload_n hx hb dX10_isAhead_3 rfl (lv_at hl 0 rfl) ?_
      refine va_get (D := (dC, dI)) (ci := 10) (v := .int (I 1)) (C := RX10) (T := TX10) (N := 28) hx hb hts hinX10 hown hK hP 0 rfl rfl 1 (by decide) (hts (.fieldLink RX10 13 "MixedWordsModel" "columns" "I") (by decide +kernel)) (fun _ h9 => h9) rfl dX10_isAhead_4 ?_
      refine xt_i (y := nI M) (hM) ?_
      refine xn_ge (tgt := 29) hx hb dX10_isAhead_7 (by decide) (by omega) (by omega) (fun c_7_0 => ?_) (fun c_7_0 => ?_)
      · skip
        refine lv_iload_n hx hb dX10_isAhead_29 rfl (lv_at hl 3 rfl) ?_
        refine lv_aload_n hx hb dX10_isAhead_30 rfl (lv_at hl 0 rfl) ?_
        refine va_get (D := (dC, dI)) (ci := 10) (v := .int (I 1)) (C := RX10) (T := TX10) (N := 28) hx hb hts hinX10 hown hK hP 0 rfl rfl 1 (by decide) (hts (.fieldLink RX10 13 "MixedWordsModel" "columns" "I") (by decide +kernel)) (fun _ h9 => h9) rfl dX10_isAhead_31 ?_
        refine xt_i (y := nI M) (hM) ?_
        refine xn_geT (tgt := 50) hx hb dX10_isAhead_34 (by decide) (by omega) (by omega) (by omega) ?_
        refine lv_iconst (v := nI 0) hx hb dX10_isAhead_50 (by decide) ?_
        exact xr_z (v := (nI 0)) hx hb hr hlocks hK hS dX10_isAhead_51 (rfl) (I, L, A, Q) ⟨(Or.inr ⟨rfl, ah_end (by omega) h_2⟩), rfl⟩ hP hD
      · skip
        refine lv_iload_n hx hb dX10_isAhead_10 rfl (lv_at hl 1 rfl) ?_
        refine lv_iload_n hx hb dX10_isAhead_11 rfl (lv_at hl 3 rfl) ?_
        refine lv_ishr hx hb dX10_isAhead_12 ?_
        refine lv_iconst (v := nI 1) hx hb dX10_isAhead_13 (by decide) ?_
        refine lv_iand hx hb dX10_isAhead_14 ?_
        refine lv_iload_n hx hb dX10_isAhead_15 rfl (lv_at hl 2 rfl) ?_
        refine lv_iload_n hx hb dX10_isAhead_16 rfl (lv_at hl 3 rfl) ?_
        refine lv_ishr hx hb dX10_isAhead_17 ?_
        refine lv_iconst (v := nI 1) hx hb dX10_isAhead_18 (by decide) ?_
        refine lv_iand hx hb dX10_isAhead_19 ?_
        refine lv_icmp_ne (tgt := 29) hx hb dX10_isAhead_20 (by decide) (fun c_20_2 => ?_) (fun c_20_2 => ?_)
        · skip
          have hdiff : ¬ bt1 x c3 = bt1 y c3 := c_20_2
          refine lv_iload_n hx hb dX10_isAhead_29 rfl (lv_at hl 3 rfl) ?_
          refine lv_aload_n hx hb dX10_isAhead_30 rfl (lv_at hl 0 rfl) ?_
          refine va_get (D := (dC, dI)) (ci := 10) (v := .int (I 1)) (C := RX10) (T := TX10) (N := 28) hx hb hts hinX10 hown hK hP 0 rfl rfl 1 (by decide) (hts (.fieldLink RX10 13 "MixedWordsModel" "columns" "I") (by decide +kernel)) (fun _ h9 => h9) rfl dX10_isAhead_31 ?_
          refine xt_i (y := nI M) (hM) ?_
          refine xn_geF (tgt := 50) hx hb dX10_isAhead_34 (by decide) (by omega) (by omega) (by omega) ?_
          refine lv_iload_n hx hb dX10_isAhead_37 rfl (lv_at hl 1 rfl) ?_
          refine lv_iload_n hx hb dX10_isAhead_38 rfl (lv_at hl 3 rfl) ?_
          refine lv_ishr hx hb dX10_isAhead_39 ?_
          refine lv_iconst (v := nI 1) hx hb dX10_isAhead_40 (by decide) ?_
          refine lv_iand hx hb dX10_isAhead_41 ?_
          refine lv_iconst (v := nI 1) hx hb dX10_isAhead_42 (by decide) ?_
          refine lv_icmp_ne (tgt := 50) hx hb dX10_isAhead_43 (by decide) (fun c_43_4 => ?_) (fun c_43_4 => ?_)
          · skip
            refine lv_iconst (v := nI 0) hx hb dX10_isAhead_50 (by decide) ?_
            exact xr_z (v := (nI 0)) hx hb hr hlocks hK hS dX10_isAhead_51 (rfl) (I, L, A, Q) ⟨(Or.inr ⟨rfl, ah_no h_2 hdiff (by assumption)⟩), rfl⟩ hP hD
          · skip
            refine lv_iconst (v := nI 1) hx hb dX10_isAhead_46 (by decide) ?_
            refine lv_goto (tgt := 51) hx hb dX10_isAhead_47 (by decide) ?_
            exact xr_z (v := (nI 1)) hx hb hr hlocks hK hS dX10_isAhead_51 (rfl) (I, L, A, Q) ⟨(Or.inl ⟨rfl, c3, by omega, h_2, hdiff, by assumption⟩), rfl⟩ hP hD
        · skip
          have hsame : bt1 x c3 = bt1 y c3 := c_20_2
          refine lv_iinc (v := nI (c3 + 1)) (lv' := [(3, .int (nI (c3 + 1))), (0, .ref (h 0)), (1, .int x), (2, .int y)]) hx hb dX10_isAhead_23 hl (k := 3) rfl (nI_1 _) (by decide) rfl (fun ls hl => ?_)
          refine lv_goto (tgt := 2) hx hb dX10_isAhead_26 (by decide) ?_
          exact ih_2 (c3 + 1) (by omega) (by first | assumption | omega) (by first | exact (fun t ht => absurd ht (Nat.not_lt_zero t)) | exact ah_s h_2 hsame) _ _ _ hP hD hS (lv_sub hl [1, 2, 3, 0] rfl)
  exact cut_2 _ 0 (Nat.lt_succ_self _) (by first | assumption | omega) (by first | exact (fun t ht => absurd ht (Nat.not_lt_zero t)) | exact ah_s h_2 hsame) _ _ _ hP hD hS (lv_sub hl [1, 2, 3, 0] rfl)
set_option maxRecDepth 20000 in
theorem ggX10_nextTaken_X10_dot : GoodIn wsX10_nextTaken wsX10_dot := goodIn_r _ [6, 7, 8, 9, 10, 11, 12, 13, 14, 15, 16, 17, 18, 19, 20, 21, 22, 23, 24, 25, 26, 27, 28, 29, 30, 31, 32, 33, 34, 35] rfl (by decide +kernel)
set_option maxRecDepth 20000 in
theorem gX10_nextTaken_X10_dot : GoodIn wsX10_nextTaken (wsV RX10 175 RX10 yX10_dot wsX10_dot) := goodIn_app (goodIn_of _ (by decide +kernel)) ggX10_nextTaken_X10_dot
theorem bdX10_nextTaken_0 : (decode cX10_nextTaken 0 = .ok (.iconst (-1), 1)) ∧ (decode cX10_nextTaken 1 = .ok (.istore_n 2, 1)) ∧ (decode cX10_nextTaken 2 = .ok (.iconst 0, 1)) ∧ (decode cX10_nextTaken 3 = .ok (.istore_n 3, 1)) ∧ (decode cX10_nextTaken 4 = .ok (.iload_n 3, 1)) ∧ (decode cX10_nextTaken 5 = .ok (.aload_n 0, 1)) ∧ (decode cX10_nextTaken 6 = .ok (.getfield 13, 3)) ∧ (decode cX10_nextTaken 9 = .ok (.if_icmp .ge 54, 3)) ∧ (decode cX10_nextTaken 12 = .ok (.iload_n 1, 1)) ∧ (decode cX10_nextTaken 13 = .ok (.iload_n 3, 1)) ∧ (decode cX10_nextTaken 14 = .ok (.ishr, 1)) ∧ (decode cX10_nextTaken 15 = .ok (.iconst 1, 1)) ∧ (decode cX10_nextTaken 16 = .ok (.iand, 1)) ∧ (decode cX10_nextTaken 17 = .ok (.ifCond .ne 7, 3)) ∧ (decode cX10_nextTaken 20 = .ok (.iconst 1, 1)) ∧ (decode cX10_nextTaken 21 = .ok (.goto 4, 3)) := by decide +kernel
theorem dX10_nextTaken_0 : decode cX10_nextTaken 0 = .ok (.iconst (-1), 1) := bdX10_nextTaken_0.1
theorem dX10_nextTaken_1 : decode cX10_nextTaken 1 = .ok (.istore_n 2, 1) := bdX10_nextTaken_0.2.1
theorem dX10_nextTaken_2 : decode cX10_nextTaken 2 = .ok (.iconst 0, 1) := bdX10_nextTaken_0.2.2.1
theorem dX10_nextTaken_3 : decode cX10_nextTaken 3 = .ok (.istore_n 3, 1) := bdX10_nextTaken_0.2.2.2.1
theorem dX10_nextTaken_4 : decode cX10_nextTaken 4 = .ok (.iload_n 3, 1) := bdX10_nextTaken_0.2.2.2.2.1
theorem dX10_nextTaken_5 : decode cX10_nextTaken 5 = .ok (.aload_n 0, 1) := bdX10_nextTaken_0.2.2.2.2.2.1
theorem dX10_nextTaken_6 : decode cX10_nextTaken 6 = .ok (.getfield 13, 3) := bdX10_nextTaken_0.2.2.2.2.2.2.1
theorem dX10_nextTaken_9 : decode cX10_nextTaken 9 = .ok (.if_icmp .ge 54, 3) := bdX10_nextTaken_0.2.2.2.2.2.2.2.1
theorem dX10_nextTaken_12 : decode cX10_nextTaken 12 = .ok (.iload_n 1, 1) := bdX10_nextTaken_0.2.2.2.2.2.2.2.2.1
theorem dX10_nextTaken_13 : decode cX10_nextTaken 13 = .ok (.iload_n 3, 1) := bdX10_nextTaken_0.2.2.2.2.2.2.2.2.2.1
theorem dX10_nextTaken_14 : decode cX10_nextTaken 14 = .ok (.ishr, 1) := bdX10_nextTaken_0.2.2.2.2.2.2.2.2.2.2.1
theorem dX10_nextTaken_15 : decode cX10_nextTaken 15 = .ok (.iconst 1, 1) := bdX10_nextTaken_0.2.2.2.2.2.2.2.2.2.2.2.1
theorem dX10_nextTaken_16 : decode cX10_nextTaken 16 = .ok (.iand, 1) := bdX10_nextTaken_0.2.2.2.2.2.2.2.2.2.2.2.2.1
theorem dX10_nextTaken_17 : decode cX10_nextTaken 17 = .ok (.ifCond .ne 7, 3) := bdX10_nextTaken_0.2.2.2.2.2.2.2.2.2.2.2.2.2.1
theorem dX10_nextTaken_20 : decode cX10_nextTaken 20 = .ok (.iconst 1, 1) := bdX10_nextTaken_0.2.2.2.2.2.2.2.2.2.2.2.2.2.2.1
theorem dX10_nextTaken_21 : decode cX10_nextTaken 21 = .ok (.goto 4, 3) := bdX10_nextTaken_0.2.2.2.2.2.2.2.2.2.2.2.2.2.2.2
theorem bdX10_nextTaken_24 : (decode cX10_nextTaken 24 = .ok (.iconst 0, 1)) ∧ (decode cX10_nextTaken 25 = .ok (.istore 4, 2)) ∧ (decode cX10_nextTaken 27 = .ok (.iload 4, 2)) ∧ (decode cX10_nextTaken 29 = .ok (.ifCond .eq 26, 3)) ∧ (decode cX10_nextTaken 32 = .ok (.iload_n 2, 1)) ∧ (decode cX10_nextTaken 33 = .ok (.ifCond .lt 18, 3)) ∧ (decode cX10_nextTaken 36 = .ok (.aload_n 0, 1)) ∧ (decode cX10_nextTaken 37 = .ok (.iload_n 3, 1)) ∧ (decode cX10_nextTaken 38 = .ok (.iload_n 3, 1)) ∧ (decode cX10_nextTaken 39 = .ok (.invokevirtual 175, 3)) ∧ (decode cX10_nextTaken 42 = .ok (.aload_n 0, 1)) ∧ (decode cX10_nextTaken 43 = .ok (.iload_n 2, 1)) ∧ (decode cX10_nextTaken 44 = .ok (.iload_n 2, 1)) ∧ (decode cX10_nextTaken 45 = .ok (.invokevirtual 175, 3)) ∧ (decode cX10_nextTaken 48 = .ok (.if_icmp .le 7, 3)) ∧ (decode cX10_nextTaken 51 = .ok (.iload_n 3, 1)) := by decide +kernel
theorem dX10_nextTaken_24 : decode cX10_nextTaken 24 = .ok (.iconst 0, 1) := bdX10_nextTaken_24.1
theorem dX10_nextTaken_25 : decode cX10_nextTaken 25 = .ok (.istore 4, 2) := bdX10_nextTaken_24.2.1
theorem dX10_nextTaken_27 : decode cX10_nextTaken 27 = .ok (.iload 4, 2) := bdX10_nextTaken_24.2.2.1
theorem dX10_nextTaken_29 : decode cX10_nextTaken 29 = .ok (.ifCond .eq 26, 3) := bdX10_nextTaken_24.2.2.2.1
theorem dX10_nextTaken_32 : decode cX10_nextTaken 32 = .ok (.iload_n 2, 1) := bdX10_nextTaken_24.2.2.2.2.1
theorem dX10_nextTaken_33 : decode cX10_nextTaken 33 = .ok (.ifCond .lt 18, 3) := bdX10_nextTaken_24.2.2.2.2.2.1
theorem dX10_nextTaken_36 : decode cX10_nextTaken 36 = .ok (.aload_n 0, 1) := bdX10_nextTaken_24.2.2.2.2.2.2.1
theorem dX10_nextTaken_37 : decode cX10_nextTaken 37 = .ok (.iload_n 3, 1) := bdX10_nextTaken_24.2.2.2.2.2.2.2.1
theorem dX10_nextTaken_38 : decode cX10_nextTaken 38 = .ok (.iload_n 3, 1) := bdX10_nextTaken_24.2.2.2.2.2.2.2.2.1
theorem dX10_nextTaken_39 : decode cX10_nextTaken 39 = .ok (.invokevirtual 175, 3) := bdX10_nextTaken_24.2.2.2.2.2.2.2.2.2.1
theorem dX10_nextTaken_42 : decode cX10_nextTaken 42 = .ok (.aload_n 0, 1) := bdX10_nextTaken_24.2.2.2.2.2.2.2.2.2.2.1
theorem dX10_nextTaken_43 : decode cX10_nextTaken 43 = .ok (.iload_n 2, 1) := bdX10_nextTaken_24.2.2.2.2.2.2.2.2.2.2.2.1
theorem dX10_nextTaken_44 : decode cX10_nextTaken 44 = .ok (.iload_n 2, 1) := bdX10_nextTaken_24.2.2.2.2.2.2.2.2.2.2.2.2.1
theorem dX10_nextTaken_45 : decode cX10_nextTaken 45 = .ok (.invokevirtual 175, 3) := bdX10_nextTaken_24.2.2.2.2.2.2.2.2.2.2.2.2.2.1
theorem dX10_nextTaken_48 : decode cX10_nextTaken 48 = .ok (.if_icmp .le 7, 3) := bdX10_nextTaken_24.2.2.2.2.2.2.2.2.2.2.2.2.2.2.1
theorem dX10_nextTaken_51 : decode cX10_nextTaken 51 = .ok (.iload_n 3, 1) := bdX10_nextTaken_24.2.2.2.2.2.2.2.2.2.2.2.2.2.2.2
theorem bdX10_nextTaken_52 : (decode cX10_nextTaken 52 = .ok (.goto 4, 3)) ∧ (decode cX10_nextTaken 55 = .ok (.iload_n 2, 1)) ∧ (decode cX10_nextTaken 56 = .ok (.istore_n 2, 1)) ∧ (decode cX10_nextTaken 57 = .ok (.iinc 3 1, 3)) ∧ (decode cX10_nextTaken 60 = .ok (.goto (-56), 3)) ∧ (decode cX10_nextTaken 63 = .ok (.iload_n 2, 1)) ∧ (decode cX10_nextTaken 64 = .ok (.ireturn, 1)) := by decide +kernel
theorem dX10_nextTaken_52 : decode cX10_nextTaken 52 = .ok (.goto 4, 3) := bdX10_nextTaken_52.1
theorem dX10_nextTaken_55 : decode cX10_nextTaken 55 = .ok (.iload_n 2, 1) := bdX10_nextTaken_52.2.1
theorem dX10_nextTaken_56 : decode cX10_nextTaken 56 = .ok (.istore_n 2, 1) := bdX10_nextTaken_52.2.2.1
theorem dX10_nextTaken_57 : decode cX10_nextTaken 57 = .ok (.iinc 3 1, 3) := bdX10_nextTaken_52.2.2.2.1
theorem dX10_nextTaken_60 : decode cX10_nextTaken 60 = .ok (.goto (-56), 3) := bdX10_nextTaken_52.2.2.2.2.1
theorem dX10_nextTaken_63 : decode cX10_nextTaken 63 = .ok (.iload_n 2, 1) := bdX10_nextTaken_52.2.2.2.2.2.1
theorem dX10_nextTaken_64 : decode cX10_nextTaken 64 = .ok (.ireturn, 1) := bdX10_nextTaken_52.2.2.2.2.2.2
set_option maxHeartbeats 4000000 in
set_option maxRecDepth 100000 in
theorem k_X10_nextTaken (l : Launch) (dC : Nat → ClassId) (dI : Nat → Nat → Nat) (h : Nat → Nat) (cs : Nat → ClassId) (sz : Nat) (I : Nat → Int32) (L : Nat → Int64) (A : Nat → Nat → Int32) (Q : Nat → Nat → Int64) (x : Int32) (M : Nat) (hM : I 1 = nI M) (hM1 : 1 ≤ M) (hM4 : M ≤ 4) : Met l yX10_nextTaken wsX10_nextTaken ({ frames := 1, cells := 0, slots := 0, locals := 24 }) (va_Pc [.ref (h 0), .int x] (xPre (dC, dI) (rW h cs I L A Q) (tysA cs) sz)) (va_Qi (fun (r : Int32) (u : RS) => (r = ntF (fun t => dotF (A 17) t t) x M) ∧ u = (I, L, A, Q)) (xB (dC, dI) (tysA cs) (va_A (rW h cs I L A Q) sz) (fun u : RS => rW h cs u.1 u.2.1 u.2.2.1 u.2.2.2)) (va_A (rW h cs I L A Q) sz)) 0 0 (va_A (rW h cs I L A Q) sz) := by
  refine Met.ofW (cc := cX10_nextTaken) (maxL := 5) (ret := (some .int)) (by decide) rfl ?_
  intro p e s m args below meth c s₁ B hml hv
  obtain ⟨rfl, hsz, hP, hK, hD0, hN⟩ := hv
  have hx := B.exec
  have hb := B.bytes
  have hr := B.returns
  have hts := atoms_spec (ws := wsX10_nextTaken) B.pre
  have hown : s.vm.findClass RX10 = some m.cls := findClass_of_methodNamed B.named
  have hlocks := B.notSynchronized
  subst hsz
  have hD := hD0.self (sz := s.heap.size)
  generalize hAe : va_A (rW h cs I L A Q) s.heap.size = A0 at hD ⊢
  have hA : ∀ q : Nat, s.heap.size ≤ q → A0 q := fun q h => by rw [← hAe]; exact Or.inr h
  have hl := lv_entry ([.ref (h 0), .int x]) (n := 5) (Nat.le_of_ble_eq_true rfl)
  rw [lg_entry_eq]
  generalize (lg_sl ([.ref (h 0), .int x]) ++ List.replicate (5 - (lg_sl ([.ref (h 0), .int x])).length) Slot.unset).toArray = ls at hl ⊢
  have hl : lv_has ls 5 [(0, .ref (h 0)), (1, .int x)] := hl
  generalize hH : s.heap = H at hP ⊢
  have hS : va_S A0 s.heap H [] := by rw [← hH]; exact va_S.rf
  have hinX10 : ∀ w ∈ wsX100, w ∈ wsX10_nextTaken := by decide +kernel
  refine lv_iconst (v := (-1)) hx hb dX10_nextTaken_0 (by decide) ?_
  refine lv_istore_n (lv' := [(2, .int (-1)), (0, .ref (h 0)), (1, .int x)]) hx hb dX10_nextTaken_1 rfl hl (by decide) rfl (fun ls hl => ?_)
  refine lv_iconst (v := nI 0) hx hb dX10_nextTaken_2 (by decide) ?_
  refine lv_istore_n (lv' := [(3, .int (nI 0)), (2, .int (-1)), (0, .ref (h 0)), (1, .int x)]) hx hb dX10_nextTaken_3 rfl hl (by decide) rfl (fun ls hl => ?_)
  have cut_4 : ∀ (nf : Nat) (k : Nat) (b2 : Int32), (M - k) < nf → (k ≤ M) → (b2 = ntF (fun t => dotF (A 17) t t) x k) → (b2 = -1 ∨ ∃ q : Nat, q < k ∧ b2 = nI q) → ∀ (H : Heap) (locs : List Loc) (ls : Array Slot), va_P (dC, dI) vwCl (rW h cs I L A Q) H → va_D A0 (rW h cs I L A Q) → va_S A0 s.heap H locs → lv_has ls 5 [(0, .ref (h 0)), (1, .int x), (2, .int b2), (3, .int (nI k))] → W p l e (headSpec wsX10_nextTaken ({ frames := 1, cells := 0, slots := 0, locals := 24 })).room s m ([.ref (h 0), .int x] : List Value).toArray below meth c H locs 0 0 (MQ below (va_Qi (fun (r : Int32) (u : RS) => (r = ntF (fun t => dotF (A 17) t t) x M) ∧ u = (I, L, A, Q)) (xB (dC, dI) (tysA cs) A0 (fun u : RS => rW h cs u.1 u.2.1 u.2.2.1 u.2.2.2)) A0) ([.ref (h 0), .int x] : List Value).toArray s 0 0 A0) (F0 m 4 ls []) := by
    intro nf
    induction nf with
    | zero => intro k b2 hm; exact absurd hm (Nat.not_lt_zero _)
    | succ nf ih_4 =>
      intro k b2 hm_4 hk_4 hb_4 hq_4 H locs ls hP hD hS hl
      refine lv_iload_n hx hb dX10_nextTaken_4 rfl (lv_at hl 3 rfl) ?_
      refine lv_aload_n hx hb dX10_nextTaken_5 rfl (lv_at hl 0 rfl) ?_
      refine va_get (D := (dC, dI)) (ci := 10) (v := .int (I 1)) (C := RX10) (T := TX10) (N := 28) hx hb hts hinX10 hown hK hP 0 rfl rfl 1 (by decide) (hts (.fieldLink RX10 13 "MixedWordsModel" "columns" "I") (by decide +kernel)) (fun _ h9 => h9) rfl dX10_nextTaken_6 ?_
      refine xt_i (y := nI M) (hM) ?_
      refine xn_ge (tgt := 63) hx hb dX10_nextTaken_9 (by decide) (by omega) (by omega) (fun c_9_0 => ?_) (fun c_9_0 => ?_)
      · skip
        refine lv_iload_n hx hb dX10_nextTaken_63 rfl (lv_at hl 2 rfl) ?_
        exact xr_i (v := b2) hx hb hr hlocks hK hS dX10_nextTaken_64 (I, L, A, Q) ⟨(by rw [hb_4, show M = k by omega]), rfl⟩ hP hD
      · skip
        refine lv_iload_n hx hb dX10_nextTaken_12 rfl (lv_at hl 1 rfl) ?_
        refine lv_iload_n hx hb dX10_nextTaken_13 rfl (lv_at hl 3 rfl) ?_
        refine lv_ishr hx hb dX10_nextTaken_14 ?_
        refine lv_iconst (v := nI 1) hx hb dX10_nextTaken_15 (by decide) ?_
        refine lv_iand hx hb dX10_nextTaken_16 ?_
        refine lv_if_ne (tgt := 24) hx hb dX10_nextTaken_17 (by decide) (fun c_17_1 => ?_) (fun c_17_1 => ?_)
        · skip
          have hbit : ¬ bt1 x k = nI 0 := c_17_1
          refine lv_iconst (v := nI 0) hx hb dX10_nextTaken_24 (by decide) ?_
          refine lv_istore (lv' := [(4, .int (nI 0)), (0, .ref (h 0)), (1, .int x), (2, .int b2), (3, .int (nI k))]) hx hb dX10_nextTaken_25 hl (by decide) rfl (fun ls hl => ?_)
          refine lv_iload hx hb dX10_nextTaken_27 (lv_at hl 0 rfl) ?_
          refine xs_eqT (tgt := 55) hx hb dX10_nextTaken_29 (by decide) (by decide) ?_
          refine lv_iload_n hx hb dX10_nextTaken_55 rfl (lv_at hl 3 rfl) ?_
          refine lv_istore_n (lv' := [(2, .int b2), (4, .int (nI 0)), (0, .ref (h 0)), (1, .int x), (3, .int (nI k))]) hx hb dX10_nextTaken_56 rfl hl (by decide) rfl (fun ls hl => ?_)
          refine lv_iinc (v := nI (k + 1)) (lv' := [(3, .int (nI (k + 1))), (2, .int b2), (4, .int (nI 0)), (0, .ref (h 0)), (1, .int x)]) hx hb dX10_nextTaken_57 hl (k := 4) rfl (nI_1 _) (by decide) rfl (fun ls hl => ?_)
          refine lv_goto (tgt := 4) hx hb dX10_nextTaken_60 (by decide) ?_
          exact ih_4 (k + 1) b2 (by omega) (by first | assumption | omega) (by first | rfl | exact nt_a hbit hb_4 (by assumption) | exact nt_b (d := (fun t => dotF (A 17) t t)) (by omega) hbit hb_4 hbq (by assumption) | exact nt_c (d := (fun t => dotF (A 17) t t)) (by omega) hb_4 hbq (by assumption) | exact nt_d hbit hb_4) (by first | exact Or.inl rfl | exact Or.inr ⟨k, by omega, rfl⟩ | exact Or.inr ⟨qb, by omega, rfl⟩ | exact hq_4.elim Or.inl (fun ⟨q, h1, h2⟩ => Or.inr ⟨q, by omega, h2⟩)) _ _ _ hP hD hS (lv_sub hl [3, 4, 1, 0] rfl)
        · skip
          have hbit : bt1 x k = nI 0 := c_17_1
          refine lv_iconst (v := nI 1) hx hb dX10_nextTaken_20 (by decide) ?_
          refine lv_goto (tgt := 25) hx hb dX10_nextTaken_21 (by decide) ?_
          refine lv_istore (lv' := [(4, .int (nI 1)), (0, .ref (h 0)), (1, .int x), (2, .int b2), (3, .int (nI k))]) hx hb dX10_nextTaken_25 hl (by decide) rfl (fun ls hl => ?_)
          refine lv_iload hx hb dX10_nextTaken_27 (lv_at hl 0 rfl) ?_
          refine xs_eqF (tgt := 55) hx hb dX10_nextTaken_29 (by decide) (by decide) ?_
          refine lv_iload_n hx hb dX10_nextTaken_32 rfl (lv_at hl 3 rfl) ?_
          refine lv_if_lt (tgt := 51) hx hb dX10_nextTaken_33 (by decide) (fun c_33_4 => ?_) (fun c_33_4 => ?_)
          · skip
            refine lv_iload_n hx hb dX10_nextTaken_51 rfl (lv_at hl 4 rfl) ?_
            refine lv_goto (tgt := 56) hx hb dX10_nextTaken_52 (by decide) ?_
            refine lv_istore_n (lv' := [(2, .int (nI k)), (4, .int (nI 1)), (0, .ref (h 0)), (1, .int x), (3, .int (nI k))]) hx hb dX10_nextTaken_56 rfl hl (by decide) rfl (fun ls hl => ?_)
            refine lv_iinc (v := nI (k + 1)) (lv' := [(3, .int (nI (k + 1))), (2, .int (nI k)), (4, .int (nI 1)), (0, .ref (h 0)), (1, .int x)]) hx hb dX10_nextTaken_57 hl (k := 4) rfl (nI_1 _) (by decide) rfl (fun ls hl => ?_)
            refine lv_goto (tgt := 4) hx hb dX10_nextTaken_60 (by decide) ?_
            exact ih_4 (k + 1) (nI k) (by omega) (by first | assumption | omega) (by first | rfl | exact nt_a hbit hb_4 (by assumption) | exact nt_b (d := (fun t => dotF (A 17) t t)) (by omega) hbit hb_4 hbq (by assumption) | exact nt_c (d := (fun t => dotF (A 17) t t)) (by omega) hb_4 hbq (by assumption) | exact nt_d hbit hb_4) (by first | exact Or.inl rfl | exact Or.inr ⟨k, by omega, rfl⟩ | exact Or.inr ⟨qb, by omega, rfl⟩ | exact hq_4.elim Or.inl (fun ⟨q, h1, h2⟩ => Or.inr ⟨q, by omega, h2⟩)) _ _ _ hP hD hS (lv_sub hl [3, 4, 1, 0] rfl)
          · skip
            obtain ⟨qb, hqb, hbq⟩ : ∃ q : Nat, q < k ∧ b2 = nI q := hq_4.elim (fun g => absurd (by rw [g]; decide) c_33_4) id
            rw [hbq] at hl
            refine lv_aload_n hx hb dX10_nextTaken_36 rfl (lv_at hl 1 rfl) ?_
            refine lv_iload_n hx hb dX10_nextTaken_37 rfl (lv_at hl 4 rfl) ?_
            refine lv_iload_n hx hb dX10_nextTaken_38 rfl (lv_at hl 4 rfl) ?_
            refine xj_i (wc := (rW h cs I L A Q)) (wr := ([] : va_W)) hP hD hS hA [0, 1, 2, 3, 4, 5, 6, 7, 8, 9, 10, 11, 12, 13, 14, 15, 16] [] rfl rfl (by decide +kernel) (by decide +kernel) (va_runV (As := [.int (nI k), .int (nI k)]) (rest := []) ⟨hx, hb, hml, hown, hts⟩ (k_X10_dot l dC dI h cs H.size I L A Q k k (by first | assumption | omega) (by first | assumption | omega)) (cwV 2 hts gX10_nextTaken_X10_dot rfl rfl rfl (by decide +kernel) ⟨Nat.le_of_ble_eq_true rfl, Nat.le_of_ble_eq_true rfl⟩) (xpV (wc := (rW h cs I L A Q)) hP hD hK hN [0, 1, 2, 3, 4, 5, 6, 7, 8, 9, 10, 11, 12, 13, 14, 15, 16] rfl (by decide) 0 (ci := 10) rfl rfl _) rfl rfl hl.1 rfl (lv_room (Nat.le_of_ble_eq_true rfl)) dX10_nextTaken_39 ⟨Nat.zero_le _, Nat.zero_le _⟩) (fun r_7 u_6 H locs hw hP hD hS => ?_)
            obtain ⟨hf_8, rfl⟩ := hw
            have hP : va_P (dC, dI) vwCl (rW h cs I L A Q) H := hP
            have hD : va_D A0 (rW h cs I L A Q) := hD
            obtain rfl := hf_8
            refine lv_aload_n hx hb dX10_nextTaken_42 rfl (lv_at hl 1 rfl) ?_
            refine lv_iload_n hx hb dX10_nextTaken_43 rfl (lv_at hl 3 rfl) ?_
            refine lv_iload_n hx hb dX10_nextTaken_44 rfl (lv_at hl 3 rfl) ?_
            refine xj_i (wc := (rW h cs I L A Q)) (wr := ([] : va_W)) hP hD hS hA [0, 1, 2, 3, 4, 5, 6, 7, 8, 9, 10, 11, 12, 13, 14, 15, 16] [] rfl rfl (by decide +kernel) (by decide +kernel) (va_runV (As := [.int (nI qb), .int (nI qb)]) (rest := [.int (dotF (A 17) k k)]) ⟨hx, hb, hml, hown, hts⟩ (k_X10_dot l dC dI h cs H.size I L A Q qb qb (by first | assumption | omega) (by first | assumption | omega)) (cwV 2 hts gX10_nextTaken_X10_dot rfl rfl rfl (by decide +kernel) ⟨Nat.le_of_ble_eq_true rfl, Nat.le_of_ble_eq_true rfl⟩) (xpV (wc := (rW h cs I L A Q)) hP hD hK hN [0, 1, 2, 3, 4, 5, 6, 7, 8, 9, 10, 11, 12, 13, 14, 15, 16] rfl (by decide) 0 (ci := 10) rfl rfl _) rfl rfl hl.1 rfl (lv_room (Nat.le_of_ble_eq_true rfl)) dX10_nextTaken_45 ⟨Nat.zero_le _, Nat.zero_le _⟩) (fun r_10 u_9 H locs hw hP hD hS => ?_)
            obtain ⟨hf_11, rfl⟩ := hw
            have hP : va_P (dC, dI) vwCl (rW h cs I L A Q) H := hP
            have hD : va_D A0 (rW h cs I L A Q) := hD
            obtain rfl := hf_11
            refine lv_icmp_le (tgt := 55) hx hb dX10_nextTaken_48 (by decide) (fun c_48_11 => ?_) (fun c_48_11 => ?_)
            · skip
              refine lv_iload_n hx hb dX10_nextTaken_55 rfl (lv_at hl 3 rfl) ?_
              refine lv_istore_n (lv' := [(2, .int (nI qb)), (4, .int (nI 1)), (0, .ref (h 0)), (1, .int x), (3, .int (nI k))]) hx hb dX10_nextTaken_56 rfl hl (by decide) rfl (fun ls hl => ?_)
              refine lv_iinc (v := nI (k + 1)) (lv' := [(3, .int (nI (k + 1))), (2, .int (nI qb)), (4, .int (nI 1)), (0, .ref (h 0)), (1, .int x)]) hx hb dX10_nextTaken_57 hl (k := 4) rfl (nI_1 _) (by decide) rfl (fun ls hl => ?_)
              refine lv_goto (tgt := 4) hx hb dX10_nextTaken_60 (by decide) ?_
              exact ih_4 (k + 1) (nI qb) (by omega) (by first | assumption | omega) (by first | rfl | exact nt_a hbit hb_4 (by assumption) | exact nt_b (d := (fun t => dotF (A 17) t t)) (by omega) hbit hb_4 hbq (by assumption) | exact nt_c (d := (fun t => dotF (A 17) t t)) (by omega) hb_4 hbq (by assumption) | exact nt_d hbit hb_4) (by first | exact Or.inl rfl | exact Or.inr ⟨k, by omega, rfl⟩ | exact Or.inr ⟨qb, by omega, rfl⟩ | exact hq_4.elim Or.inl (fun ⟨q, h1, h2⟩ => Or.inr ⟨q, by omega, h2⟩)) _ _ _ hP hD hS (lv_sub hl [3, 4, 1, 0] rfl)
            · skip
              refine lv_iload_n hx hb dX10_nextTaken_51 rfl (lv_at hl 4 rfl) ?_
              refine lv_goto (tgt := 56) hx hb dX10_nextTaken_52 (by decide) ?_
              refine lv_istore_n (lv' := [(2, .int (nI k)), (4, .int (nI 1)), (0, .ref (h 0)), (1, .int x), (3, .int (nI k))]) hx hb dX10_nextTaken_56 rfl hl (by decide) rfl (fun ls hl => ?_)
              refine lv_iinc (v := nI (k + 1)) (lv' := [(3, .int (nI (k + 1))), (2, .int (nI k)), (4, .int (nI 1)), (0, .ref (h 0)), (1, .int x)]) hx hb dX10_nextTaken_57 hl (k := 4) rfl (nI_1 _) (by decide) rfl (fun ls hl => ?_)
              refine lv_goto (tgt := 4) hx hb dX10_nextTaken_60 (by decide) ?_
              exact ih_4 (k + 1) (nI k) (by omega) (by first | assumption | omega) (by first | rfl | exact nt_a hbit hb_4 (by assumption) | exact nt_b (d := (fun t => dotF (A 17) t t)) (by omega) hbit hb_4 hbq (by assumption) | exact nt_c (d := (fun t => dotF (A 17) t t)) (by omega) hb_4 hbq (by assumption) | exact nt_d hbit hb_4) (by first | exact Or.inl rfl | exact Or.inr ⟨k, by omega, rfl⟩ | exact Or.inr ⟨qb, by omega, rfl⟩ | exact hq_4.elim Or.inl (fun ⟨q, h1, h2⟩ => Or.inr ⟨q, by omega, h2⟩)) _ _ _ hP hD hS (lv_sub hl [3, 4, 1, 0] rfl)
  exact cut_4 _ 0 (-1) (Nat.lt_succ_self _) (by first | assumption | omega) (by first | rfl | exact nt_a hbit hb_4 (by assumption) | exact nt_b (d := (fun t => dotF (A 17) t t)) (by omega) hbit hb_4 hbq (by assumption) | exact nt_c (d := (fun t => dotF (A 17) t t)) (by omega) hb_4 hbq (by assumption) | exact nt_d hbit hb_4) (by first | exact Or.inl rfl | exact Or.inr ⟨k, by omega, rfl⟩ | exact Or.inr ⟨qb, by omega, rfl⟩ | exact hq_4.elim Or.inl (fun ⟨q, h1, h2⟩ => Or.inr ⟨q, by omega, h2⟩)) _ _ _ hP hD hS (lv_sub hl [2, 3, 1, 0] rfl)
set_option maxRecDepth 20000 in
theorem ggX10_order_X10_isColumn : GoodIn wsX10_order wsX10_isColumn := goodIn_r _ [5, 6, 7, 8, 4, 9, 26, 27, 28, 29, 30, 31, 32, 33, 34, 35, 36, 37, 38, 39, 40, 41, 42, 43, 44, 45, 46, 47, 48, 49, 50, 51, 52, 53] rfl (by decide +kernel)
set_option maxRecDepth 20000 in
theorem gX10_order_X10_isColumn : GoodIn wsX10_order (wsV RX10 90 RX10 yX10_isColumn wsX10_isColumn) := goodIn_app (goodIn_of _ (by decide +kernel)) ggX10_order_X10_isColumn
set_option maxRecDepth 20000 in
theorem ggX10_order_X10_lay : GoodIn wsX10_order wsX10_lay := goodIn_r _ [13, 14, 6, 15, 16, 17, 26, 27, 28, 29, 30, 31, 32, 33, 34, 35, 36, 37, 38, 39, 40, 41, 42, 43, 44, 45, 46, 47, 48, 49, 50, 51, 52, 53] rfl (by decide +kernel)
set_option maxRecDepth 20000 in
theorem gX10_order_X10_lay : GoodIn wsX10_order (wsV RX10 172 RX10 yX10_lay wsX10_lay) := goodIn_app (goodIn_of _ (by decide +kernel)) ggX10_order_X10_lay
set_option maxRecDepth 20000 in
theorem ggX10_order_X10_nextTaken : GoodIn wsX10_order wsX10_nextTaken := goodIn_r _ [21, 6, 22, 23, 24, 4, 25, 14, 26, 27, 28, 29, 30, 31, 32, 33, 34, 35, 36, 37, 38, 39, 40, 41, 42, 43, 44, 45, 46, 47, 48, 49, 50, 51, 52, 53] rfl (by decide +kernel)
set_option maxRecDepth 20000 in
theorem gX10_order_X10_nextTaken : GoodIn wsX10_order (wsV RX10 219 RX10 yX10_nextTaken wsX10_nextTaken) := goodIn_app (goodIn_of _ (by decide +kernel)) ggX10_order_X10_nextTaken
theorem bdX10_order_0 : (decode cX10_order 0 = .ok (.aload_n 0, 1)) ∧ (decode cX10_order 1 = .ok (.iload_n 1, 1)) ∧ (decode cX10_order 2 = .ok (.invokevirtual 90, 3)) ∧ (decode cX10_order 5 = .ok (.ifCond .ne 5, 3)) ∧ (decode cX10_order 8 = .ok (.iconst (-1), 1)) ∧ (decode cX10_order 9 = .ok (.ireturn, 1)) ∧ (decode cX10_order 10 = .ok (.aload_n 0, 1)) ∧ (decode cX10_order 11 = .ok (.invokevirtual 172, 3)) ∧ (decode cX10_order 14 = .ok (.iconst 0, 1)) ∧ (decode cX10_order 15 = .ok (.istore_n 2, 1)) ∧ (decode cX10_order 16 = .ok (.iconst (-1), 1)) ∧ (decode cX10_order 17 = .ok (.istore_n 3, 1)) ∧ (decode cX10_order 18 = .ok (.iconst 0, 1)) ∧ (decode cX10_order 19 = .ok (.istore 4, 2)) ∧ (decode cX10_order 21 = .ok (.iload 4, 2)) ∧ (decode cX10_order 23 = .ok (.iload_n 1, 1)) := by decide +kernel
theorem dX10_order_0 : decode cX10_order 0 = .ok (.aload_n 0, 1) := bdX10_order_0.1
theorem dX10_order_1 : decode cX10_order 1 = .ok (.iload_n 1, 1) := bdX10_order_0.2.1
theorem dX10_order_2 : decode cX10_order 2 = .ok (.invokevirtual 90, 3) := bdX10_order_0.2.2.1
theorem dX10_order_5 : decode cX10_order 5 = .ok (.ifCond .ne 5, 3) := bdX10_order_0.2.2.2.1
theorem dX10_order_8 : decode cX10_order 8 = .ok (.iconst (-1), 1) := bdX10_order_0.2.2.2.2.1
theorem dX10_order_9 : decode cX10_order 9 = .ok (.ireturn, 1) := bdX10_order_0.2.2.2.2.2.1
theorem dX10_order_10 : decode cX10_order 10 = .ok (.aload_n 0, 1) := bdX10_order_0.2.2.2.2.2.2.1
theorem dX10_order_11 : decode cX10_order 11 = .ok (.invokevirtual 172, 3) := bdX10_order_0.2.2.2.2.2.2.2.1
theorem dX10_order_14 : decode cX10_order 14 = .ok (.iconst 0, 1) := bdX10_order_0.2.2.2.2.2.2.2.2.1
theorem dX10_order_15 : decode cX10_order 15 = .ok (.istore_n 2, 1) := bdX10_order_0.2.2.2.2.2.2.2.2.2.1
theorem dX10_order_16 : decode cX10_order 16 = .ok (.iconst (-1), 1) := bdX10_order_0.2.2.2.2.2.2.2.2.2.2.1
theorem dX10_order_17 : decode cX10_order 17 = .ok (.istore_n 3, 1) := bdX10_order_0.2.2.2.2.2.2.2.2.2.2.2.1
theorem dX10_order_18 : decode cX10_order 18 = .ok (.iconst 0, 1) := bdX10_order_0.2.2.2.2.2.2.2.2.2.2.2.2.1
theorem dX10_order_19 : decode cX10_order 19 = .ok (.istore 4, 2) := bdX10_order_0.2.2.2.2.2.2.2.2.2.2.2.2.2.1
theorem dX10_order_21 : decode cX10_order 21 = .ok (.iload 4, 2) := bdX10_order_0.2.2.2.2.2.2.2.2.2.2.2.2.2.2.1
theorem dX10_order_23 : decode cX10_order 23 = .ok (.iload_n 1, 1) := bdX10_order_0.2.2.2.2.2.2.2.2.2.2.2.2.2.2.2
theorem bdX10_order_24 : (decode cX10_order 24 = .ok (.if_icmp .gt 21, 3)) ∧ (decode cX10_order 27 = .ok (.aload_n 0, 1)) ∧ (decode cX10_order 28 = .ok (.iload_n 2, 1)) ∧ (decode cX10_order 29 = .ok (.invokevirtual 219, 3)) ∧ (decode cX10_order 32 = .ok (.istore_n 3, 1)) ∧ (decode cX10_order 33 = .ok (.iload_n 2, 1)) ∧ (decode cX10_order 34 = .ok (.iconst 1, 1)) ∧ (decode cX10_order 35 = .ok (.iload_n 3, 1)) ∧ (decode cX10_order 36 = .ok (.ishl, 1)) ∧ (decode cX10_order 37 = .ok (.ior, 1)) ∧ (decode cX10_order 38 = .ok (.istore_n 2, 1)) ∧ (decode cX10_order 39 = .ok (.iinc 4 1, 3)) ∧ (decode cX10_order 42 = .ok (.goto (-21), 3)) ∧ (decode cX10_order 45 = .ok (.iload_n 3, 1)) ∧ (decode cX10_order 46 = .ok (.ireturn, 1)) := by decide +kernel
theorem dX10_order_24 : decode cX10_order 24 = .ok (.if_icmp .gt 21, 3) := bdX10_order_24.1
theorem dX10_order_27 : decode cX10_order 27 = .ok (.aload_n 0, 1) := bdX10_order_24.2.1
theorem dX10_order_28 : decode cX10_order 28 = .ok (.iload_n 2, 1) := bdX10_order_24.2.2.1
theorem dX10_order_29 : decode cX10_order 29 = .ok (.invokevirtual 219, 3) := bdX10_order_24.2.2.2.1
theorem dX10_order_32 : decode cX10_order 32 = .ok (.istore_n 3, 1) := bdX10_order_24.2.2.2.2.1
theorem dX10_order_33 : decode cX10_order 33 = .ok (.iload_n 2, 1) := bdX10_order_24.2.2.2.2.2.1
theorem dX10_order_34 : decode cX10_order 34 = .ok (.iconst 1, 1) := bdX10_order_24.2.2.2.2.2.2.1
theorem dX10_order_35 : decode cX10_order 35 = .ok (.iload_n 3, 1) := bdX10_order_24.2.2.2.2.2.2.2.1
theorem dX10_order_36 : decode cX10_order 36 = .ok (.ishl, 1) := bdX10_order_24.2.2.2.2.2.2.2.2.1
theorem dX10_order_37 : decode cX10_order 37 = .ok (.ior, 1) := bdX10_order_24.2.2.2.2.2.2.2.2.2.1
theorem dX10_order_38 : decode cX10_order 38 = .ok (.istore_n 2, 1) := bdX10_order_24.2.2.2.2.2.2.2.2.2.2.1
theorem dX10_order_39 : decode cX10_order 39 = .ok (.iinc 4 1, 3) := bdX10_order_24.2.2.2.2.2.2.2.2.2.2.2.1
theorem dX10_order_42 : decode cX10_order 42 = .ok (.goto (-21), 3) := bdX10_order_24.2.2.2.2.2.2.2.2.2.2.2.2.1
theorem dX10_order_45 : decode cX10_order 45 = .ok (.iload_n 3, 1) := bdX10_order_24.2.2.2.2.2.2.2.2.2.2.2.2.2.1
theorem dX10_order_46 : decode cX10_order 46 = .ok (.ireturn, 1) := bdX10_order_24.2.2.2.2.2.2.2.2.2.2.2.2.2.2
set_option maxHeartbeats 4000000 in
set_option maxRecDepth 100000 in
theorem k_X10_order (l : Launch) (dC : Nat → ClassId) (dI : Nat → Nat → Nat) (h : Nat → Nat) (cs : Nat → ClassId) (sz : Nat) (I : Nat → Int32) (L : Nat → Int64) (A : Nat → Nat → Int32) (Q : Nat → Nat → Int64) (x : Int32) (R M : Nat) (hR : I 0 = nI R) (hR1 : 1 ≤ R) (hR5 : R ≤ 5) (hM : I 1 = nI M) (hM1 : 1 ≤ M) (hM4 : M ≤ 4) : Met l yX10_order wsX10_order ({ frames := 2, cells := 0, slots := 0, locals := 48 }) (va_Pc [.ref (h 0), .int x] (xPre (dC, dI) (rW h cs I L A Q) (tysA cs) sz)) (va_Qi (fun (r : Int32) (u : RS) => ∃ f17 : Nat → Int32, ∃ f18 : Nat → Int32, ((∃ i : Nat, i < M ∧ x = nI i ∧ laid (A 3) R M f17 f18 ∧ r = ntF (fun t => dotF f17 t t) (tkB (fun t => dotF f17 t t) M i) M) ∨ (r = -1 ∧ (∀ i : Nat, i < M → x ≠ nI i) ∧ f17 = A 17 ∧ f18 = A 18)) ∧ u = (I, L, (va_up (va_up A 17 f17) 18 f18), Q)) (xB (dC, dI) (tysA cs) (va_A (rW h cs I L A Q) sz) (fun u : RS => rW h cs u.1 u.2.1 u.2.2.1 u.2.2.2)) (va_A (rW h cs I L A Q) sz)) 0 0 (va_A (rW h cs I L A Q) sz) := by
  refine Met.ofW (cc := cX10_order) (maxL := 5) (ret := (some .int)) (by decide) rfl ?_
  intro p e s m args below meth c s₁ B hml hv
  obtain ⟨rfl, hsz, hP, hK, hD0, hN⟩ := hv
  have hx := B.exec
  have hb := B.bytes
  have hr := B.returns
  have hts := atoms_spec (ws := wsX10_order) B.pre
  have hown : s.vm.findClass RX10 = some m.cls := findClass_of_methodNamed B.named
  have hlocks := B.notSynchronized
  subst hsz
  have hD := hD0.self (sz := s.heap.size)
  generalize hAe : va_A (rW h cs I L A Q) s.heap.size = A0 at hD ⊢
  have hA : ∀ q : Nat, s.heap.size ≤ q → A0 q := fun q h => by rw [← hAe]; exact Or.inr h
  have hl := lv_entry ([.ref (h 0), .int x]) (n := 5) (Nat.le_of_ble_eq_true rfl)
  rw [lg_entry_eq]
  generalize (lg_sl ([.ref (h 0), .int x]) ++ List.replicate (5 - (lg_sl ([.ref (h 0), .int x])).length) Slot.unset).toArray = ls at hl ⊢
  have hl : lv_has ls 5 [(0, .ref (h 0)), (1, .int x)] := hl
  generalize hH : s.heap = H at hP ⊢
  have hS : va_S A0 s.heap H [] := by rw [← hH]; exact va_S.rf
  refine lv_aload_n hx hb dX10_order_0 rfl (lv_at hl 0 rfl) ?_
  refine lv_iload_n hx hb dX10_order_1 rfl (lv_at hl 1 rfl) ?_
  refine xj_i (wc := (rW h cs I L A Q)) (wr := ([] : va_W)) hP hD hS hA [0, 1, 2, 3, 4, 5, 6, 7, 8, 9, 10, 11, 12, 13, 14, 15, 16] [] rfl rfl (by decide +kernel) (by decide +kernel) (va_runV (As := [.int x]) (rest := []) ⟨hx, hb, hml, hown, hts⟩ (k_X10_isColumn l dC dI h cs H.size I L A Q x M hM (by first | assumption | omega | exact hM1) (by first | assumption | omega | exact hM4)) (cwV 1 hts gX10_order_X10_isColumn rfl rfl rfl (by decide +kernel) ⟨Nat.le_of_ble_eq_true rfl, Nat.le_of_ble_eq_true rfl⟩) (xpV (wc := (rW h cs I L A Q)) hP hD hK hN [0, 1, 2, 3, 4, 5, 6, 7, 8, 9, 10, 11, 12, 13, 14, 15, 16] rfl (by decide) 0 (ci := 10) rfl rfl _) rfl rfl hl.1 rfl (lv_room (Nat.le_of_ble_eq_true rfl)) dX10_order_2 ⟨Nat.zero_le _, Nat.zero_le _⟩) (fun r_2 u_1 H locs hw hP hD hS => ?_)
  obtain ⟨hf_3, rfl⟩ := hw
  have hP : va_P (dC, dI) vwCl (rW h cs I L A Q) H := hP
  have hD : va_D A0 (rW h cs I L A Q) := hD
  rcases hf_3 with ⟨rfl, i_4, hi_5, hx_6⟩ | ⟨rfl, hn_7⟩
  · skip
    rw [hx_6] at hl
    refine xs_neT (tgt := 10) hx hb dX10_order_5 (by decide) (by decide) ?_
    refine lv_aload_n hx hb dX10_order_10 rfl (lv_at hl 0 rfl) ?_
    refine xj_v (wc := (rW h cs I L A Q)) (wr := ([] : va_W)) hP hD hS hA [0, 1, 2, 3, 4, 5, 6, 7, 8, 9, 10, 11, 12, 13, 14, 15, 16] [] rfl rfl (by decide +kernel) (by decide +kernel) (va_runV (As := []) (rest := []) ⟨hx, hb, hml, hown, hts⟩ (k_X10_lay l dC dI h cs H.size I L A Q R M hR (by first | assumption | omega | exact hR1) (by first | assumption | omega | exact hR5) hM (by first | assumption | omega | exact hM1) (by first | assumption | omega | exact hM4)) (cwV 0 hts gX10_order_X10_lay rfl rfl rfl (by decide +kernel) ⟨Nat.le_of_ble_eq_true rfl, Nat.le_of_ble_eq_true rfl⟩) (xpV (wc := (rW h cs I L A Q)) hP hD hK hN [0, 1, 2, 3, 4, 5, 6, 7, 8, 9, 10, 11, 12, 13, 14, 15, 16] rfl (by decide) 0 (ci := 10) rfl rfl _) rfl rfl hl.1 rfl (lv_room (Nat.le_of_ble_eq_true rfl)) dX10_order_11 ⟨Nat.zero_le _, Nat.zero_le _⟩) (fun u_9 H locs hw hP hD hS => ?_)
    obtain ⟨f17_11, f18_12, hf_13, rfl⟩ := hw
    have hP : va_P (dC, dI) vwCl (rW h cs I L (va_up (va_up A 17 f17_11) 18 f18_12) Q) H := hP
    have hD : va_D A0 (rW h cs I L (va_up (va_up A 17 f17_11) 18 f18_12) Q) := hD
    refine lv_iconst (v := nI 0) hx hb dX10_order_14 (by decide) ?_
    refine lv_istore_n (lv' := [(2, .int (nI 0)), (0, .ref (h 0)), (1, .int (nI i_4))]) hx hb dX10_order_15 rfl hl (by decide) rfl (fun ls hl => ?_)
    refine lv_iconst (v := (-1)) hx hb dX10_order_16 (by decide) ?_
    refine lv_istore_n (lv' := [(3, .int (-1)), (2, .int (nI 0)), (0, .ref (h 0)), (1, .int (nI i_4))]) hx hb dX10_order_17 rfl hl (by decide) rfl (fun ls hl => ?_)
    refine lv_iconst (v := nI 0) hx hb dX10_order_18 (by decide) ?_
    refine lv_istore (lv' := [(4, .int (nI 0)), (3, .int (-1)), (2, .int (nI 0)), (0, .ref (h 0)), (1, .int (nI i_4))]) hx hb dX10_order_19 hl (by decide) rfl (fun ls hl => ?_)
    have cut_21 : ∀ (nf : Nat) (k : Nat) (c3 : Int32), (i_4 + 1 - k) < nf → (k ≤ i_4 + 1) → (0 < k → c3 = ntF (fun t => dotF f17_11 t t) (tkB (fun t => dotF f17_11 t t) M (k - 1)) M) → ∀ (H : Heap) (locs : List Loc) (ls : Array Slot), va_P (dC, dI) vwCl (rW h cs I L (va_up (va_up A 17 f17_11) 18 f18_12) Q) H → va_D A0 (rW h cs I L (va_up (va_up A 17 f17_11) 18 f18_12) Q) → va_S A0 s.heap H locs → lv_has ls 5 [(0, .ref (h 0)), (1, .int (nI i_4)), (2, .int (tkB (fun t => dotF f17_11 t t) M k)), (3, .int c3), (4, .int (nI k))] → W p l e (headSpec wsX10_order ({ frames := 2, cells := 0, slots := 0, locals := 48 })).room s m ([.ref (h 0), .int x] : List Value).toArray below meth c H locs 0 0 (MQ below (va_Qi (fun (r : Int32) (u : RS) => ∃ f17 : Nat → Int32, ∃ f18 : Nat → Int32, ((∃ i : Nat, i < M ∧ x = nI i ∧ laid (A 3) R M f17 f18 ∧ r = ntF (fun t => dotF f17 t t) (tkB (fun t => dotF f17 t t) M i) M) ∨ (r = -1 ∧ (∀ i : Nat, i < M → x ≠ nI i) ∧ f17 = A 17 ∧ f18 = A 18)) ∧ u = (I, L, (va_up (va_up A 17 f17) 18 f18), Q)) (xB (dC, dI) (tysA cs) A0 (fun u : RS => rW h cs u.1 u.2.1 u.2.2.1 u.2.2.2)) A0) ([.ref (h 0), .int x] : List Value).toArray s 0 0 A0) (F0 m 21 ls []) := by
      intro nf
      induction nf with
      | zero => intro k c3 hm; exact absurd hm (Nat.not_lt_zero _)
      | succ nf ih_21 =>
        intro k c3 hm_21 hk_21 hc_21 H locs ls hP hD hS hl
        refine lv_iload hx hb dX10_order_21 (lv_at hl 4 rfl) ?_
        refine lv_iload_n hx hb dX10_order_23 rfl (lv_at hl 1 rfl) ?_
        refine xn_gt (tgt := 45) hx hb dX10_order_24 (by decide) (by omega) (by omega) (fun c_24_13 => ?_) (fun c_24_13 => ?_)
        · skip
          refine lv_iload_n hx hb dX10_order_45 rfl (lv_at hl 3 rfl) ?_
          exact xr_i (v := c3) hx hb hr hlocks hK hS dX10_order_46 (I, L, (va_up (va_up A 17 f17_11) 18 f18_12), Q) ⟨f17_11, f18_12, (Or.inl ⟨i_4, hi_5, hx_6, hf_13, by rw [hc_21 (by omega), show k - 1 = i_4 by omega]⟩), rfl⟩ hP hD
        · skip
          refine lv_aload_n hx hb dX10_order_27 rfl (lv_at hl 0 rfl) ?_
          refine lv_iload_n hx hb dX10_order_28 rfl (lv_at hl 2 rfl) ?_
          refine xj_i (wc := (rW h cs I L (va_up (va_up A 17 f17_11) 18 f18_12) Q)) (wr := ([] : va_W)) hP hD hS hA [0, 1, 2, 3, 4, 5, 6, 7, 8, 9, 10, 11, 12, 13, 14, 15, 16] [] rfl rfl (by decide +kernel) (by decide +kernel) (va_runV (As := [.int (tkB (fun t => dotF f17_11 t t) M k)]) (rest := []) ⟨hx, hb, hml, hown, hts⟩ (k_X10_nextTaken l dC dI h cs H.size I L (va_up (va_up A 17 f17_11) 18 f18_12) Q (tkB (fun t => dotF f17_11 t t) M k) M hM (by first | assumption | omega | exact hM1) (by first | assumption | omega | exact hM4)) (cwV 1 hts gX10_order_X10_nextTaken rfl rfl rfl (by decide +kernel) ⟨Nat.le_of_ble_eq_true rfl, Nat.le_of_ble_eq_true rfl⟩) (xpV (wc := (rW h cs I L (va_up (va_up A 17 f17_11) 18 f18_12) Q)) hP hD hK hN [0, 1, 2, 3, 4, 5, 6, 7, 8, 9, 10, 11, 12, 13, 14, 15, 16] rfl (by decide) 0 (ci := 10) rfl rfl _) rfl rfl hl.1 rfl (lv_room (Nat.le_of_ble_eq_true rfl)) dX10_order_29 ⟨Nat.zero_le _, Nat.zero_le _⟩) (fun r_16 u_15 H locs hw hP hD hS => ?_)
          obtain ⟨hf_17, rfl⟩ := hw
          have hP : va_P (dC, dI) vwCl (rW h cs I L (va_up (va_up A 17 f17_11) 18 f18_12) Q) H := hP
          have hD : va_D A0 (rW h cs I L (va_up (va_up A 17 f17_11) 18 f18_12) Q) := hD
          obtain rfl := hf_17
          refine lv_istore_n (lv' := [(3, .int (ntF (fun t => dotF f17_11 t t) (tkB (fun t => dotF f17_11 t t) M k) M)), (0, .ref (h 0)), (1, .int (nI i_4)), (2, .int (tkB (fun t => dotF f17_11 t t) M k)), (4, .int (nI k))]) hx hb dX10_order_32 rfl hl (by decide) rfl (fun ls hl => ?_)
          refine lv_iload_n hx hb dX10_order_33 rfl (lv_at hl 3 rfl) ?_
          refine lv_iconst (v := nI 1) hx hb dX10_order_34 (by decide) ?_
          refine lv_iload_n hx hb dX10_order_35 rfl (lv_at hl 0 rfl) ?_
          refine lv_ishl hx hb dX10_order_36 ?_
          refine lv_ior hx hb dX10_order_37 ?_
          refine lv_istore_n (lv' := [(2, .int ((tkB (fun t => dotF f17_11 t t) M k) ||| ((nI 1) <<< ((ntF (fun t => dotF f17_11 t t) (tkB (fun t => dotF f17_11 t t) M k) M) &&& 31)))), (3, .int (ntF (fun t => dotF f17_11 t t) (tkB (fun t => dotF f17_11 t t) M k) M)), (0, .ref (h 0)), (1, .int (nI i_4)), (4, .int (nI k))]) hx hb dX10_order_38 rfl hl (by decide) rfl (fun ls hl => ?_)
          refine lv_iinc (v := nI (k + 1)) (lv' := [(4, .int (nI (k + 1))), (2, .int ((tkB (fun t => dotF f17_11 t t) M k) ||| ((nI 1) <<< ((ntF (fun t => dotF f17_11 t t) (tkB (fun t => dotF f17_11 t t) M k) M) &&& 31)))), (3, .int (ntF (fun t => dotF f17_11 t t) (tkB (fun t => dotF f17_11 t t) M k) M)), (0, .ref (h 0)), (1, .int (nI i_4))]) hx hb dX10_order_39 hl (k := 4) rfl (nI_1 _) (by decide) rfl (fun ls hl => ?_)
          refine lv_goto (tgt := 21) hx hb dX10_order_42 (by decide) ?_
          exact ih_21 (k + 1) (ntF (fun t => dotF f17_11 t t) (tkB (fun t => dotF f17_11 t t) M k) M) (by omega) (by first | assumption | omega) (by first | (intro h9; exact absurd h9 (Nat.lt_irrefl 0)) | (intro _; rfl)) _ _ _ hP hD hS (lv_sub hl [3, 4, 1, 2, 0] rfl)
    exact cut_21 _ 0 (-1) (Nat.lt_succ_self _) (by first | assumption | omega) (by first | (intro h9; exact absurd h9 (Nat.lt_irrefl 0)) | (intro _; rfl)) _ _ _ hP hD hS (lv_sub hl [3, 4, 2, 1, 0] rfl)
  · skip
    refine xs_neF (tgt := 10) hx hb dX10_order_5 (by decide) (by decide) ?_
    refine lv_iconst (v := (-1)) hx hb dX10_order_8 (by decide) ?_
    exact xr_i (v := (-1)) hx hb hr hlocks hK hS dX10_order_9 (I, L, (va_up (va_up A 17 (A 17)) 18 (A 18)), Q) ⟨(A 17), (A 18), (Or.inr ⟨rfl, hn_7, rfl, rfl⟩), rfl⟩ hP hD
theorem bdX10_nearestLetter_0 : (decode cX10_nearestLetter 0 = .ok (.iconst 1, 1)) ∧ (decode cX10_nearestLetter 1 = .ok (.aload_n 0, 1)) ∧ (decode cX10_nearestLetter 2 = .ok (.getfield 16, 3)) ∧ (decode cX10_nearestLetter 5 = .ok (.isub, 1)) ∧ (decode cX10_nearestLetter 6 = .ok (.istore 5, 2)) ∧ (decode cX10_nearestLetter 8 = .ok (.iconst 3, 1)) ∧ (decode cX10_nearestLetter 9 = .ok (.aload_n 0, 1)) ∧ (decode cX10_nearestLetter 10 = .ok (.getfield 16, 3)) ∧ (decode cX10_nearestLetter 13 = .ok (.isub, 1)) ∧ (decode cX10_nearestLetter 14 = .ok (.istore 6, 2)) ∧ (decode cX10_nearestLetter 16 = .ok (.iload 6, 2)) ∧ (decode cX10_nearestLetter 18 = .ok (.aload_n 0, 1)) ∧ (decode cX10_nearestLetter 19 = .ok (.getfield 16, 3)) ∧ (decode cX10_nearestLetter 22 = .ok (.if_icmp .ge 72, 3)) ∧ (decode cX10_nearestLetter 25 = .ok (.lload_n 1, 1)) ∧ (decode cX10_nearestLetter 26 = .ok (.iload 6, 2)) := by decide +kernel
theorem dX10_nearestLetter_0 : decode cX10_nearestLetter 0 = .ok (.iconst 1, 1) := bdX10_nearestLetter_0.1
theorem dX10_nearestLetter_1 : decode cX10_nearestLetter 1 = .ok (.aload_n 0, 1) := bdX10_nearestLetter_0.2.1
theorem dX10_nearestLetter_2 : decode cX10_nearestLetter 2 = .ok (.getfield 16, 3) := bdX10_nearestLetter_0.2.2.1
theorem dX10_nearestLetter_5 : decode cX10_nearestLetter 5 = .ok (.isub, 1) := bdX10_nearestLetter_0.2.2.2.1
theorem dX10_nearestLetter_6 : decode cX10_nearestLetter 6 = .ok (.istore 5, 2) := bdX10_nearestLetter_0.2.2.2.2.1
theorem dX10_nearestLetter_8 : decode cX10_nearestLetter 8 = .ok (.iconst 3, 1) := bdX10_nearestLetter_0.2.2.2.2.2.1
theorem dX10_nearestLetter_9 : decode cX10_nearestLetter 9 = .ok (.aload_n 0, 1) := bdX10_nearestLetter_0.2.2.2.2.2.2.1
theorem dX10_nearestLetter_10 : decode cX10_nearestLetter 10 = .ok (.getfield 16, 3) := bdX10_nearestLetter_0.2.2.2.2.2.2.2.1
theorem dX10_nearestLetter_13 : decode cX10_nearestLetter 13 = .ok (.isub, 1) := bdX10_nearestLetter_0.2.2.2.2.2.2.2.2.1
theorem dX10_nearestLetter_14 : decode cX10_nearestLetter 14 = .ok (.istore 6, 2) := bdX10_nearestLetter_0.2.2.2.2.2.2.2.2.2.1
theorem dX10_nearestLetter_16 : decode cX10_nearestLetter 16 = .ok (.iload 6, 2) := bdX10_nearestLetter_0.2.2.2.2.2.2.2.2.2.2.1
theorem dX10_nearestLetter_18 : decode cX10_nearestLetter 18 = .ok (.aload_n 0, 1) := bdX10_nearestLetter_0.2.2.2.2.2.2.2.2.2.2.2.1
theorem dX10_nearestLetter_19 : decode cX10_nearestLetter 19 = .ok (.getfield 16, 3) := bdX10_nearestLetter_0.2.2.2.2.2.2.2.2.2.2.2.2.1
theorem dX10_nearestLetter_22 : decode cX10_nearestLetter 22 = .ok (.if_icmp .ge 72, 3) := bdX10_nearestLetter_0.2.2.2.2.2.2.2.2.2.2.2.2.2.1
theorem dX10_nearestLetter_25 : decode cX10_nearestLetter 25 = .ok (.lload_n 1, 1) := bdX10_nearestLetter_0.2.2.2.2.2.2.2.2.2.2.2.2.2.2.1
theorem dX10_nearestLetter_26 : decode cX10_nearestLetter 26 = .ok (.iload 6, 2) := bdX10_nearestLetter_0.2.2.2.2.2.2.2.2.2.2.2.2.2.2.2
theorem bdX10_nearestLetter_28 : (decode cX10_nearestLetter 28 = .ok (.i2l, 1)) ∧ (decode cX10_nearestLetter 29 = .ok (.lload_n 3, 1)) ∧ (decode cX10_nearestLetter 30 = .ok (.lmul, 1)) ∧ (decode cX10_nearestLetter 31 = .ok (.lsub, 1)) ∧ (decode cX10_nearestLetter 32 = .ok (.lstore 7, 2)) ∧ (decode cX10_nearestLetter 34 = .ok (.lload_n 1, 1)) ∧ (decode cX10_nearestLetter 35 = .ok (.iload 5, 2)) ∧ (decode cX10_nearestLetter 37 = .ok (.i2l, 1)) ∧ (decode cX10_nearestLetter 38 = .ok (.lload_n 3, 1)) ∧ (decode cX10_nearestLetter 39 = .ok (.lmul, 1)) ∧ (decode cX10_nearestLetter 40 = .ok (.lsub, 1)) ∧ (decode cX10_nearestLetter 41 = .ok (.lstore 9, 2)) ∧ (decode cX10_nearestLetter 43 = .ok (.lload 7, 2)) ∧ (decode cX10_nearestLetter 45 = .ok (.lconst 0, 1)) ∧ (decode cX10_nearestLetter 46 = .ok (.lcmp, 1)) ∧ (decode cX10_nearestLetter 47 = .ok (.ifCond .ge 10, 3)) := by decide +kernel
theorem dX10_nearestLetter_28 : decode cX10_nearestLetter 28 = .ok (.i2l, 1) := bdX10_nearestLetter_28.1
theorem dX10_nearestLetter_29 : decode cX10_nearestLetter 29 = .ok (.lload_n 3, 1) := bdX10_nearestLetter_28.2.1
theorem dX10_nearestLetter_30 : decode cX10_nearestLetter 30 = .ok (.lmul, 1) := bdX10_nearestLetter_28.2.2.1
theorem dX10_nearestLetter_31 : decode cX10_nearestLetter 31 = .ok (.lsub, 1) := bdX10_nearestLetter_28.2.2.2.1
theorem dX10_nearestLetter_32 : decode cX10_nearestLetter 32 = .ok (.lstore 7, 2) := bdX10_nearestLetter_28.2.2.2.2.1
theorem dX10_nearestLetter_34 : decode cX10_nearestLetter 34 = .ok (.lload_n 1, 1) := bdX10_nearestLetter_28.2.2.2.2.2.1
theorem dX10_nearestLetter_35 : decode cX10_nearestLetter 35 = .ok (.iload 5, 2) := bdX10_nearestLetter_28.2.2.2.2.2.2.1
theorem dX10_nearestLetter_37 : decode cX10_nearestLetter 37 = .ok (.i2l, 1) := bdX10_nearestLetter_28.2.2.2.2.2.2.2.1
theorem dX10_nearestLetter_38 : decode cX10_nearestLetter 38 = .ok (.lload_n 3, 1) := bdX10_nearestLetter_28.2.2.2.2.2.2.2.2.1
theorem dX10_nearestLetter_39 : decode cX10_nearestLetter 39 = .ok (.lmul, 1) := bdX10_nearestLetter_28.2.2.2.2.2.2.2.2.2.1
theorem dX10_nearestLetter_40 : decode cX10_nearestLetter 40 = .ok (.lsub, 1) := bdX10_nearestLetter_28.2.2.2.2.2.2.2.2.2.2.1
theorem dX10_nearestLetter_41 : decode cX10_nearestLetter 41 = .ok (.lstore 9, 2) := bdX10_nearestLetter_28.2.2.2.2.2.2.2.2.2.2.2.1
theorem dX10_nearestLetter_43 : decode cX10_nearestLetter 43 = .ok (.lload 7, 2) := bdX10_nearestLetter_28.2.2.2.2.2.2.2.2.2.2.2.2.1
theorem dX10_nearestLetter_45 : decode cX10_nearestLetter 45 = .ok (.lconst 0, 1) := bdX10_nearestLetter_28.2.2.2.2.2.2.2.2.2.2.2.2.2.1
theorem dX10_nearestLetter_46 : decode cX10_nearestLetter 46 = .ok (.lcmp, 1) := bdX10_nearestLetter_28.2.2.2.2.2.2.2.2.2.2.2.2.2.2.1
theorem dX10_nearestLetter_47 : decode cX10_nearestLetter 47 = .ok (.ifCond .ge 10, 3) := bdX10_nearestLetter_28.2.2.2.2.2.2.2.2.2.2.2.2.2.2.2
theorem bdX10_nearestLetter_50 : (decode cX10_nearestLetter 50 = .ok (.lconst 0, 1)) ∧ (decode cX10_nearestLetter 51 = .ok (.lload 7, 2)) ∧ (decode cX10_nearestLetter 53 = .ok (.lsub, 1)) ∧ (decode cX10_nearestLetter 54 = .ok (.goto 5, 3)) ∧ (decode cX10_nearestLetter 57 = .ok (.lload 7, 2)) ∧ (decode cX10_nearestLetter 59 = .ok (.lload 9, 2)) ∧ (decode cX10_nearestLetter 61 = .ok (.lconst 0, 1)) ∧ (decode cX10_nearestLetter 62 = .ok (.lcmp, 1)) ∧ (decode cX10_nearestLetter 63 = .ok (.ifCond .ge 10, 3)) ∧ (decode cX10_nearestLetter 66 = .ok (.lconst 0, 1)) ∧ (decode cX10_nearestLetter 67 = .ok (.lload 9, 2)) ∧ (decode cX10_nearestLetter 69 = .ok (.lsub, 1)) ∧ (decode cX10_nearestLetter 70 = .ok (.goto 5, 3)) ∧ (decode cX10_nearestLetter 73 = .ok (.lload 9, 2)) ∧ (decode cX10_nearestLetter 75 = .ok (.lcmp, 1)) ∧ (decode cX10_nearestLetter 76 = .ok (.ifCond .ge 8, 3)) := by decide +kernel
theorem dX10_nearestLetter_50 : decode cX10_nearestLetter 50 = .ok (.lconst 0, 1) := bdX10_nearestLetter_50.1
theorem dX10_nearestLetter_51 : decode cX10_nearestLetter 51 = .ok (.lload 7, 2) := bdX10_nearestLetter_50.2.1
theorem dX10_nearestLetter_53 : decode cX10_nearestLetter 53 = .ok (.lsub, 1) := bdX10_nearestLetter_50.2.2.1
theorem dX10_nearestLetter_54 : decode cX10_nearestLetter 54 = .ok (.goto 5, 3) := bdX10_nearestLetter_50.2.2.2.1
theorem dX10_nearestLetter_57 : decode cX10_nearestLetter 57 = .ok (.lload 7, 2) := bdX10_nearestLetter_50.2.2.2.2.1
theorem dX10_nearestLetter_59 : decode cX10_nearestLetter 59 = .ok (.lload 9, 2) := bdX10_nearestLetter_50.2.2.2.2.2.1
theorem dX10_nearestLetter_61 : decode cX10_nearestLetter 61 = .ok (.lconst 0, 1) := bdX10_nearestLetter_50.2.2.2.2.2.2.1
theorem dX10_nearestLetter_62 : decode cX10_nearestLetter 62 = .ok (.lcmp, 1) := bdX10_nearestLetter_50.2.2.2.2.2.2.2.1
theorem dX10_nearestLetter_63 : decode cX10_nearestLetter 63 = .ok (.ifCond .ge 10, 3) := bdX10_nearestLetter_50.2.2.2.2.2.2.2.2.1
theorem dX10_nearestLetter_66 : decode cX10_nearestLetter 66 = .ok (.lconst 0, 1) := bdX10_nearestLetter_50.2.2.2.2.2.2.2.2.2.1
theorem dX10_nearestLetter_67 : decode cX10_nearestLetter 67 = .ok (.lload 9, 2) := bdX10_nearestLetter_50.2.2.2.2.2.2.2.2.2.2.1
theorem dX10_nearestLetter_69 : decode cX10_nearestLetter 69 = .ok (.lsub, 1) := bdX10_nearestLetter_50.2.2.2.2.2.2.2.2.2.2.2.1
theorem dX10_nearestLetter_70 : decode cX10_nearestLetter 70 = .ok (.goto 5, 3) := bdX10_nearestLetter_50.2.2.2.2.2.2.2.2.2.2.2.2.1
theorem dX10_nearestLetter_73 : decode cX10_nearestLetter 73 = .ok (.lload 9, 2) := bdX10_nearestLetter_50.2.2.2.2.2.2.2.2.2.2.2.2.2.1
theorem dX10_nearestLetter_75 : decode cX10_nearestLetter 75 = .ok (.lcmp, 1) := bdX10_nearestLetter_50.2.2.2.2.2.2.2.2.2.2.2.2.2.2.1
theorem dX10_nearestLetter_76 : decode cX10_nearestLetter 76 = .ok (.ifCond .ge 8, 3) := bdX10_nearestLetter_50.2.2.2.2.2.2.2.2.2.2.2.2.2.2.2
theorem bdX10_nearestLetter_79 : (decode cX10_nearestLetter 79 = .ok (.iload 6, 2)) ∧ (decode cX10_nearestLetter 81 = .ok (.goto 5, 3)) ∧ (decode cX10_nearestLetter 84 = .ok (.iload 5, 2)) ∧ (decode cX10_nearestLetter 86 = .ok (.istore 5, 2)) ∧ (decode cX10_nearestLetter 88 = .ok (.iinc 6 2, 3)) ∧ (decode cX10_nearestLetter 91 = .ok (.goto (-75), 3)) ∧ (decode cX10_nearestLetter 94 = .ok (.iload 5, 2)) ∧ (decode cX10_nearestLetter 96 = .ok (.ireturn, 1)) := by decide +kernel
theorem dX10_nearestLetter_79 : decode cX10_nearestLetter 79 = .ok (.iload 6, 2) := bdX10_nearestLetter_79.1
theorem dX10_nearestLetter_81 : decode cX10_nearestLetter 81 = .ok (.goto 5, 3) := bdX10_nearestLetter_79.2.1
theorem dX10_nearestLetter_84 : decode cX10_nearestLetter 84 = .ok (.iload 5, 2) := bdX10_nearestLetter_79.2.2.1
theorem dX10_nearestLetter_86 : decode cX10_nearestLetter 86 = .ok (.istore 5, 2) := bdX10_nearestLetter_79.2.2.2.1
theorem dX10_nearestLetter_88 : decode cX10_nearestLetter 88 = .ok (.iinc 6 2, 3) := bdX10_nearestLetter_79.2.2.2.2.1
theorem dX10_nearestLetter_91 : decode cX10_nearestLetter 91 = .ok (.goto (-75), 3) := bdX10_nearestLetter_79.2.2.2.2.2.1
theorem dX10_nearestLetter_94 : decode cX10_nearestLetter 94 = .ok (.iload 5, 2) := bdX10_nearestLetter_79.2.2.2.2.2.2.1
theorem dX10_nearestLetter_96 : decode cX10_nearestLetter 96 = .ok (.ireturn, 1) := bdX10_nearestLetter_79.2.2.2.2.2.2.2
set_option maxHeartbeats 4000000 in
set_option maxRecDepth 100000 in
theorem k_X10_nearestLetter (l : Launch) (dC : Nat → ClassId) (dI : Nat → Nat → Nat) (h : Nat → Nat) (cs : Nat → ClassId) (sz : Nat) (I : Nat → Int32) (L : Nat → Int64) (A : Nat → Nat → Int32) (Q : Nat → Nat → Int64) (up low : Int64) (a : Nat) (ha : I 2 = nI a) (ha2 : a = 2 ∨ a = 4) : Met l yX10_nearestLetter wsX10_nearestLetter ({ frames := 0, cells := 0, slots := 0, locals := 0 }) (va_Pc [.ref (h 0), .long up, .long low] (xPre (dC, dI) (rW h cs I L A Q) (tysA cs) sz)) (va_Qi (fun (r : Int32) (u : RS) => (r = nlG up low a (a - 1)) ∧ u = (I, L, A, Q)) (xB (dC, dI) (tysA cs) (va_A (rW h cs I L A Q) sz) (fun u : RS => rW h cs u.1 u.2.1 u.2.2.1 u.2.2.2)) (va_A (rW h cs I L A Q) sz)) 0 0 (va_A (rW h cs I L A Q) sz) := by
  refine Met.ofW (cc := cX10_nearestLetter) (maxL := 11) (ret := (some .int)) (by decide) rfl ?_
  intro p e s m args below meth c s₁ B hml hv
  obtain ⟨rfl, hsz, hP, hK, hD0, hN⟩ := hv
  have hx := B.exec
  have hb := B.bytes
  have hr := B.returns
  have hts := atoms_spec (ws := wsX10_nearestLetter) B.pre
  have hown : s.vm.findClass RX10 = some m.cls := findClass_of_methodNamed B.named
  have hlocks := B.notSynchronized
  subst hsz
  have hD := hD0.self (sz := s.heap.size)
  generalize hAe : va_A (rW h cs I L A Q) s.heap.size = A0 at hD ⊢
  have hA : ∀ q : Nat, s.heap.size ≤ q → A0 q := fun q h => by rw [← hAe]; exact Or.inr h
  have hl := lv_entry ([.ref (h 0), .long up, .long low]) (n := 11) (Nat.le_of_ble_eq_true rfl)
  rw [lg_entry_eq]
  generalize (lg_sl ([.ref (h 0), .long up, .long low]) ++ List.replicate (11 - (lg_sl ([.ref (h 0), .long up, .long low])).length) Slot.unset).toArray = ls at hl ⊢
  have hl : lv_has ls 11 [(0, .ref (h 0)), (1, .long up), (3, .long low)] := hl
  generalize hH : s.heap = H at hP ⊢
  have hS : va_S A0 s.heap H [] := by rw [← hH]; exact va_S.rf
  have hinX10 : ∀ w ∈ wsX100, w ∈ wsX10_nearestLetter := by decide +kernel
  refine lv_iconst (v := nI 1) hx hb dX10_nearestLetter_0 (by decide) ?_
  refine lv_aload_n hx hb dX10_nearestLetter_1 rfl (lv_at hl 0 rfl) ?_
  refine va_get (D := (dC, dI)) (ci := 10) (v := .int (I 2)) (C := RX10) (T := TX10) (N := 28) hx hb hts hinX10 hown hK hP 0 rfl rfl 2 (by decide) (hts (.fieldLink RX10 16 "MixedWordsModel" "a" "I") (by decide +kernel)) (fun _ h9 => h9) rfl dX10_nearestLetter_2 ?_
  refine xt_i (y := nI a) (ha) ?_
  refine lv_isub hx hb dX10_nearestLetter_5 ?_
  refine lv_istore (lv' := [(5, .int ((nI 1) - (nI a))), (0, .ref (h 0)), (1, .long up), (3, .long low)]) hx hb dX10_nearestLetter_6 hl (by decide) rfl (fun ls hl => ?_)
  refine lv_iconst (v := nI 3) hx hb dX10_nearestLetter_8 (by decide) ?_
  refine lv_aload_n hx hb dX10_nearestLetter_9 rfl (lv_at hl 1 rfl) ?_
  refine va_get (D := (dC, dI)) (ci := 10) (v := .int (I 2)) (C := RX10) (T := TX10) (N := 28) hx hb hts hinX10 hown hK hP 0 rfl rfl 2 (by decide) (hts (.fieldLink RX10 16 "MixedWordsModel" "a" "I") (by decide +kernel)) (fun _ h9 => h9) rfl dX10_nearestLetter_10 ?_
  refine xt_i (y := nI a) (ha) ?_
  refine lv_isub hx hb dX10_nearestLetter_13 ?_
  refine lv_istore (lv' := [(6, .int ((nI 3) - (nI a))), (5, .int ((nI 1) - (nI a))), (0, .ref (h 0)), (1, .long up), (3, .long low)]) hx hb dX10_nearestLetter_14 hl (by decide) rfl (fun ls hl => ?_)
  have cut_16 : ∀ (nf : Nat) (t6 : Nat) (b5 : Int32), (a - 1 - t6) < nf → (t6 ≤ 4) → (t6 ≤ a - 1) → (b5 = nlG up low a t6) → ∀ (H : Heap) (locs : List Loc) (ls : Array Slot), va_P (dC, dI) vwCl (rW h cs I L A Q) H → va_D A0 (rW h cs I L A Q) → va_S A0 s.heap H locs → lv_has ls 11 [(0, .ref (h 0)), (1, .long up), (3, .long low), (5, .int b5), (6, .int (nlL a t6))] → W p l e (headSpec wsX10_nearestLetter ({ frames := 0, cells := 0, slots := 0, locals := 0 })).room s m ([.ref (h 0), .long up, .long low] : List Value).toArray below meth c H locs 0 0 (MQ below (va_Qi (fun (r : Int32) (u : RS) => (r = nlG up low a (a - 1)) ∧ u = (I, L, A, Q)) (xB (dC, dI) (tysA cs) A0 (fun u : RS => rW h cs u.1 u.2.1 u.2.2.1 u.2.2.2)) A0) ([.ref (h 0), .long up, .long low] : List Value).toArray s 0 0 A0) (F0 m 16 ls []) := by
    intro nf
    induction nf with
    | zero => intro t6 b5 hm; exact absurd hm (Nat.not_lt_zero _)
    | succ nf ih_16 =>
      intro t6 b5 hm_16 ht_16 htl_16 hb_16 H locs ls hP hD hS hl
      refine lv_iload hx hb dX10_nearestLetter_16 (lv_at hl 4 rfl) ?_
      refine lv_aload_n hx hb dX10_nearestLetter_18 rfl (lv_at hl 0 rfl) ?_
      refine va_get (D := (dC, dI)) (ci := 10) (v := .int (I 2)) (C := RX10) (T := TX10) (N := 28) hx hb hts hinX10 hown hK hP 0 rfl rfl 2 (by decide) (hts (.fieldLink RX10 16 "MixedWordsModel" "a" "I") (by decide +kernel)) (fun _ h9 => h9) rfl dX10_nearestLetter_19 ?_
      refine xt_i (y := nI a) (ha) ?_
      refine lv_icmp_ge (tgt := 94) hx hb dX10_nearestLetter_22 (by decide) (fun c_22_0 => ?_) (fun c_22_0 => ?_)
      · skip
        have hge := nl_ge ha2 ht_16 c_22_0
        refine lv_iload hx hb dX10_nearestLetter_94 (lv_at hl 3 rfl) ?_
        exact xr_i (v := b5) hx hb hr hlocks hK hS dX10_nearestLetter_96 (I, L, A, Q) ⟨(by rw [hb_16, show a - 1 = t6 by omega]), rfl⟩ hP hD
      · skip
        have hlt := nl_lt ha2 ht_16 c_22_0
        refine lv_lload_n hx hb dX10_nearestLetter_25 rfl (lv_at hl 1 rfl) ?_
        refine lv_iload hx hb dX10_nearestLetter_26 (lv_at hl 4 rfl) ?_
        refine lv_i2l (v := (nlL a t6).toInt64) hx hb dX10_nearestLetter_28 rfl ?_
        refine lv_lload_n hx hb dX10_nearestLetter_29 rfl (lv_at hl 2 rfl) ?_
        refine lv_lmul hx hb dX10_nearestLetter_30 ?_
        refine lv_lsub hx hb dX10_nearestLetter_31 ?_
        refine lv_lstore (lv' := [(7, .long (up - (((nlL a t6).toInt64) * low))), (0, .ref (h 0)), (1, .long up), (3, .long low), (5, .int b5), (6, .int (nlL a t6))]) hx hb dX10_nearestLetter_32 hl (by decide) rfl (fun ls hl => ?_)
        refine lv_lload_n hx hb dX10_nearestLetter_34 rfl (lv_at hl 2 rfl) ?_
        refine lv_iload hx hb dX10_nearestLetter_35 (lv_at hl 4 rfl) ?_
        refine lv_i2l (v := b5.toInt64) hx hb dX10_nearestLetter_37 rfl ?_
        refine lv_lload_n hx hb dX10_nearestLetter_38 rfl (lv_at hl 3 rfl) ?_
        refine lv_lmul hx hb dX10_nearestLetter_39 ?_
        refine lv_lsub hx hb dX10_nearestLetter_40 ?_
        refine lv_lstore (lv' := [(9, .long (up - (b5.toInt64 * low))), (7, .long (up - (((nlL a t6).toInt64) * low))), (0, .ref (h 0)), (1, .long up), (3, .long low), (5, .int b5), (6, .int (nlL a t6))]) hx hb dX10_nearestLetter_41 hl (by decide) rfl (fun ls hl => ?_)
        refine lv_lload hx hb dX10_nearestLetter_43 (lv_at hl 1 rfl) ?_
        refine lv_lconst (v := 0) hx hb dX10_nearestLetter_45 rfl ?_
        refine xl_ge (tgt := 57) hx hb dX10_nearestLetter_46 dX10_nearestLetter_47 (by decide) (fun c_46_1 => ?_) (fun c_46_1 => ?_)
        · skip
          have e1 := absL_p (x := up - (((nlL a t6).toInt64) * low)) c_46_1
          refine lv_lload hx hb dX10_nearestLetter_57 (lv_at hl 1 rfl) ?_
          refine lv_lload hx hb dX10_nearestLetter_59 (lv_at hl 0 rfl) ?_
          refine lv_lconst (v := 0) hx hb dX10_nearestLetter_61 rfl ?_
          refine xl_ge (tgt := 73) hx hb dX10_nearestLetter_62 dX10_nearestLetter_63 (by decide) (fun c_62_2 => ?_) (fun c_62_2 => ?_)
          · skip
            have e2 := absL_p (x := up - (b5.toInt64 * low)) c_62_2
            refine lv_lload hx hb dX10_nearestLetter_73 (lv_at hl 0 rfl) ?_
            refine xl_ge (tgt := 84) hx hb dX10_nearestLetter_75 dX10_nearestLetter_76 (by decide) (fun c_75_3 => ?_) (fun c_75_3 => ?_)
            · skip
              refine lv_iload hx hb dX10_nearestLetter_84 (lv_at hl 5 rfl) ?_
              refine lv_istore (lv' := [(5, .int b5), (9, .long (up - (b5.toInt64 * low))), (7, .long (up - (((nlL a t6).toInt64) * low))), (0, .ref (h 0)), (1, .long up), (3, .long low), (6, .int (nlL a t6))]) hx hb dX10_nearestLetter_86 hl (by decide) rfl (fun ls hl => ?_)
              refine lv_iinc (v := nlL a (t6 + 1)) (lv' := [(6, .int (nlL a (t6 + 1))), (5, .int b5), (9, .long (up - (b5.toInt64 * low))), (7, .long (up - (((nlL a t6).toInt64) * low))), (0, .ref (h 0)), (1, .long up), (3, .long low)]) hx hb dX10_nearestLetter_88 hl (k := 6) rfl (nl_inc ha2 ht_16) (by decide) rfl (fun ls hl => ?_)
              refine lv_goto (tgt := 16) hx hb dX10_nearestLetter_91 (by decide) ?_
              exact ih_16 (t6 + 1) b5 (by omega) (by first | assumption | omega) (by first | assumption | omega) (by first | rfl | (rw [nlG, ← hb_16, e1, e2, if_neg (Int64.not_lt.mpr (by assumption))]; exact hb_16) | (rw [nlG, ← hb_16, e1, e2, if_neg (Int64.not_lt.mpr (by assumption))]) | (rw [nlG, ← hb_16, e1, e2, if_pos (Int64.not_le.mp (by assumption))])) _ _ _ hP hD hS (lv_sub hl [4, 5, 6, 1, 0] rfl)
            · skip
              refine lv_iload hx hb dX10_nearestLetter_79 (lv_at hl 6 rfl) ?_
              refine lv_goto (tgt := 86) hx hb dX10_nearestLetter_81 (by decide) ?_
              refine lv_istore (lv' := [(5, .int (nlL a t6)), (9, .long (up - (b5.toInt64 * low))), (7, .long (up - (((nlL a t6).toInt64) * low))), (0, .ref (h 0)), (1, .long up), (3, .long low), (6, .int (nlL a t6))]) hx hb dX10_nearestLetter_86 hl (by decide) rfl (fun ls hl => ?_)
              refine lv_iinc (v := nlL a (t6 + 1)) (lv' := [(6, .int (nlL a (t6 + 1))), (5, .int (nlL a t6)), (9, .long (up - (b5.toInt64 * low))), (7, .long (up - (((nlL a t6).toInt64) * low))), (0, .ref (h 0)), (1, .long up), (3, .long low)]) hx hb dX10_nearestLetter_88 hl (k := 6) rfl (nl_inc ha2 ht_16) (by decide) rfl (fun ls hl => ?_)
              refine lv_goto (tgt := 16) hx hb dX10_nearestLetter_91 (by decide) ?_
              exact ih_16 (t6 + 1) (nlL a t6) (by omega) (by first | assumption | omega) (by first | assumption | omega) (by first | rfl | (rw [nlG, ← hb_16, e1, e2, if_neg (Int64.not_lt.mpr (by assumption))]; exact hb_16) | (rw [nlG, ← hb_16, e1, e2, if_neg (Int64.not_lt.mpr (by assumption))]) | (rw [nlG, ← hb_16, e1, e2, if_pos (Int64.not_le.mp (by assumption))])) _ _ _ hP hD hS (lv_sub hl [4, 5, 6, 1, 0] rfl)
          · skip
            have e2 := absL_n (x := up - (b5.toInt64 * low)) c_62_2
            refine lv_lconst (v := 0) hx hb dX10_nearestLetter_66 rfl ?_
            refine lv_lload hx hb dX10_nearestLetter_67 (lv_at hl 0 rfl) ?_
            refine lv_lsub hx hb dX10_nearestLetter_69 ?_
            refine lv_goto (tgt := 75) hx hb dX10_nearestLetter_70 (by decide) ?_
            refine xl_ge (tgt := 84) hx hb dX10_nearestLetter_75 dX10_nearestLetter_76 (by decide) (fun c_75_4 => ?_) (fun c_75_4 => ?_)
            · skip
              refine lv_iload hx hb dX10_nearestLetter_84 (lv_at hl 5 rfl) ?_
              refine lv_istore (lv' := [(5, .int b5), (9, .long (up - (b5.toInt64 * low))), (7, .long (up - (((nlL a t6).toInt64) * low))), (0, .ref (h 0)), (1, .long up), (3, .long low), (6, .int (nlL a t6))]) hx hb dX10_nearestLetter_86 hl (by decide) rfl (fun ls hl => ?_)
              refine lv_iinc (v := nlL a (t6 + 1)) (lv' := [(6, .int (nlL a (t6 + 1))), (5, .int b5), (9, .long (up - (b5.toInt64 * low))), (7, .long (up - (((nlL a t6).toInt64) * low))), (0, .ref (h 0)), (1, .long up), (3, .long low)]) hx hb dX10_nearestLetter_88 hl (k := 6) rfl (nl_inc ha2 ht_16) (by decide) rfl (fun ls hl => ?_)
              refine lv_goto (tgt := 16) hx hb dX10_nearestLetter_91 (by decide) ?_
              exact ih_16 (t6 + 1) b5 (by omega) (by first | assumption | omega) (by first | assumption | omega) (by first | rfl | (rw [nlG, ← hb_16, e1, e2, if_neg (Int64.not_lt.mpr (by assumption))]; exact hb_16) | (rw [nlG, ← hb_16, e1, e2, if_neg (Int64.not_lt.mpr (by assumption))]) | (rw [nlG, ← hb_16, e1, e2, if_pos (Int64.not_le.mp (by assumption))])) _ _ _ hP hD hS (lv_sub hl [4, 5, 6, 1, 0] rfl)
            · skip
              refine lv_iload hx hb dX10_nearestLetter_79 (lv_at hl 6 rfl) ?_
              refine lv_goto (tgt := 86) hx hb dX10_nearestLetter_81 (by decide) ?_
              refine lv_istore (lv' := [(5, .int (nlL a t6)), (9, .long (up - (b5.toInt64 * low))), (7, .long (up - (((nlL a t6).toInt64) * low))), (0, .ref (h 0)), (1, .long up), (3, .long low), (6, .int (nlL a t6))]) hx hb dX10_nearestLetter_86 hl (by decide) rfl (fun ls hl => ?_)
              refine lv_iinc (v := nlL a (t6 + 1)) (lv' := [(6, .int (nlL a (t6 + 1))), (5, .int (nlL a t6)), (9, .long (up - (b5.toInt64 * low))), (7, .long (up - (((nlL a t6).toInt64) * low))), (0, .ref (h 0)), (1, .long up), (3, .long low)]) hx hb dX10_nearestLetter_88 hl (k := 6) rfl (nl_inc ha2 ht_16) (by decide) rfl (fun ls hl => ?_)
              refine lv_goto (tgt := 16) hx hb dX10_nearestLetter_91 (by decide) ?_
              exact ih_16 (t6 + 1) (nlL a t6) (by omega) (by first | assumption | omega) (by first | assumption | omega) (by first | rfl | (rw [nlG, ← hb_16, e1, e2, if_neg (Int64.not_lt.mpr (by assumption))]; exact hb_16) | (rw [nlG, ← hb_16, e1, e2, if_neg (Int64.not_lt.mpr (by assumption))]) | (rw [nlG, ← hb_16, e1, e2, if_pos (Int64.not_le.mp (by assumption))])) _ _ _ hP hD hS (lv_sub hl [4, 5, 6, 1, 0] rfl)
        · skip
          have e1 := absL_n (x := up - (((nlL a t6).toInt64) * low)) c_46_1
          refine lv_lconst (v := 0) hx hb dX10_nearestLetter_50 rfl ?_
          refine lv_lload hx hb dX10_nearestLetter_51 (lv_at hl 1 rfl) ?_
          refine lv_lsub hx hb dX10_nearestLetter_53 ?_
          refine lv_goto (tgt := 59) hx hb dX10_nearestLetter_54 (by decide) ?_
          refine lv_lload hx hb dX10_nearestLetter_59 (lv_at hl 0 rfl) ?_
          refine lv_lconst (v := 0) hx hb dX10_nearestLetter_61 rfl ?_
          refine xl_ge (tgt := 73) hx hb dX10_nearestLetter_62 dX10_nearestLetter_63 (by decide) (fun c_62_5 => ?_) (fun c_62_5 => ?_)
          · skip
            have e2 := absL_p (x := up - (b5.toInt64 * low)) c_62_5
            refine lv_lload hx hb dX10_nearestLetter_73 (lv_at hl 0 rfl) ?_
            refine xl_ge (tgt := 84) hx hb dX10_nearestLetter_75 dX10_nearestLetter_76 (by decide) (fun c_75_6 => ?_) (fun c_75_6 => ?_)
            · skip
              refine lv_iload hx hb dX10_nearestLetter_84 (lv_at hl 5 rfl) ?_
              refine lv_istore (lv' := [(5, .int b5), (9, .long (up - (b5.toInt64 * low))), (7, .long (up - (((nlL a t6).toInt64) * low))), (0, .ref (h 0)), (1, .long up), (3, .long low), (6, .int (nlL a t6))]) hx hb dX10_nearestLetter_86 hl (by decide) rfl (fun ls hl => ?_)
              refine lv_iinc (v := nlL a (t6 + 1)) (lv' := [(6, .int (nlL a (t6 + 1))), (5, .int b5), (9, .long (up - (b5.toInt64 * low))), (7, .long (up - (((nlL a t6).toInt64) * low))), (0, .ref (h 0)), (1, .long up), (3, .long low)]) hx hb dX10_nearestLetter_88 hl (k := 6) rfl (nl_inc ha2 ht_16) (by decide) rfl (fun ls hl => ?_)
              refine lv_goto (tgt := 16) hx hb dX10_nearestLetter_91 (by decide) ?_
              exact ih_16 (t6 + 1) b5 (by omega) (by first | assumption | omega) (by first | assumption | omega) (by first | rfl | (rw [nlG, ← hb_16, e1, e2, if_neg (Int64.not_lt.mpr (by assumption))]; exact hb_16) | (rw [nlG, ← hb_16, e1, e2, if_neg (Int64.not_lt.mpr (by assumption))]) | (rw [nlG, ← hb_16, e1, e2, if_pos (Int64.not_le.mp (by assumption))])) _ _ _ hP hD hS (lv_sub hl [4, 5, 6, 1, 0] rfl)
            · skip
              refine lv_iload hx hb dX10_nearestLetter_79 (lv_at hl 6 rfl) ?_
              refine lv_goto (tgt := 86) hx hb dX10_nearestLetter_81 (by decide) ?_
              refine lv_istore (lv' := [(5, .int (nlL a t6)), (9, .long (up - (b5.toInt64 * low))), (7, .long (up - (((nlL a t6).toInt64) * low))), (0, .ref (h 0)), (1, .long up), (3, .long low), (6, .int (nlL a t6))]) hx hb dX10_nearestLetter_86 hl (by decide) rfl (fun ls hl => ?_)
              refine lv_iinc (v := nlL a (t6 + 1)) (lv' := [(6, .int (nlL a (t6 + 1))), (5, .int (nlL a t6)), (9, .long (up - (b5.toInt64 * low))), (7, .long (up - (((nlL a t6).toInt64) * low))), (0, .ref (h 0)), (1, .long up), (3, .long low)]) hx hb dX10_nearestLetter_88 hl (k := 6) rfl (nl_inc ha2 ht_16) (by decide) rfl (fun ls hl => ?_)
              refine lv_goto (tgt := 16) hx hb dX10_nearestLetter_91 (by decide) ?_
              exact ih_16 (t6 + 1) (nlL a t6) (by omega) (by first | assumption | omega) (by first | assumption | omega) (by first | rfl | (rw [nlG, ← hb_16, e1, e2, if_neg (Int64.not_lt.mpr (by assumption))]; exact hb_16) | (rw [nlG, ← hb_16, e1, e2, if_neg (Int64.not_lt.mpr (by assumption))]) | (rw [nlG, ← hb_16, e1, e2, if_pos (Int64.not_le.mp (by assumption))])) _ _ _ hP hD hS (lv_sub hl [4, 5, 6, 1, 0] rfl)
          · skip
            have e2 := absL_n (x := up - (b5.toInt64 * low)) c_62_5
            refine lv_lconst (v := 0) hx hb dX10_nearestLetter_66 rfl ?_
            refine lv_lload hx hb dX10_nearestLetter_67 (lv_at hl 0 rfl) ?_
            refine lv_lsub hx hb dX10_nearestLetter_69 ?_
            refine lv_goto (tgt := 75) hx hb dX10_nearestLetter_70 (by decide) ?_
            refine xl_ge (tgt := 84) hx hb dX10_nearestLetter_75 dX10_nearestLetter_76 (by decide) (fun c_75_7 => ?_) (fun c_75_7 => ?_)
            · skip
              refine lv_iload hx hb dX10_nearestLetter_84 (lv_at hl 5 rfl) ?_
              refine lv_istore (lv' := [(5, .int b5), (9, .long (up - (b5.toInt64 * low))), (7, .long (up - (((nlL a t6).toInt64) * low))), (0, .ref (h 0)), (1, .long up), (3, .long low), (6, .int (nlL a t6))]) hx hb dX10_nearestLetter_86 hl (by decide) rfl (fun ls hl => ?_)
              refine lv_iinc (v := nlL a (t6 + 1)) (lv' := [(6, .int (nlL a (t6 + 1))), (5, .int b5), (9, .long (up - (b5.toInt64 * low))), (7, .long (up - (((nlL a t6).toInt64) * low))), (0, .ref (h 0)), (1, .long up), (3, .long low)]) hx hb dX10_nearestLetter_88 hl (k := 6) rfl (nl_inc ha2 ht_16) (by decide) rfl (fun ls hl => ?_)
              refine lv_goto (tgt := 16) hx hb dX10_nearestLetter_91 (by decide) ?_
              exact ih_16 (t6 + 1) b5 (by omega) (by first | assumption | omega) (by first | assumption | omega) (by first | rfl | (rw [nlG, ← hb_16, e1, e2, if_neg (Int64.not_lt.mpr (by assumption))]; exact hb_16) | (rw [nlG, ← hb_16, e1, e2, if_neg (Int64.not_lt.mpr (by assumption))]) | (rw [nlG, ← hb_16, e1, e2, if_pos (Int64.not_le.mp (by assumption))])) _ _ _ hP hD hS (lv_sub hl [4, 5, 6, 1, 0] rfl)
            · skip
              refine lv_iload hx hb dX10_nearestLetter_79 (lv_at hl 6 rfl) ?_
              refine lv_goto (tgt := 86) hx hb dX10_nearestLetter_81 (by decide) ?_
              refine lv_istore (lv' := [(5, .int (nlL a t6)), (9, .long (up - (b5.toInt64 * low))), (7, .long (up - (((nlL a t6).toInt64) * low))), (0, .ref (h 0)), (1, .long up), (3, .long low), (6, .int (nlL a t6))]) hx hb dX10_nearestLetter_86 hl (by decide) rfl (fun ls hl => ?_)
              refine lv_iinc (v := nlL a (t6 + 1)) (lv' := [(6, .int (nlL a (t6 + 1))), (5, .int (nlL a t6)), (9, .long (up - (b5.toInt64 * low))), (7, .long (up - (((nlL a t6).toInt64) * low))), (0, .ref (h 0)), (1, .long up), (3, .long low)]) hx hb dX10_nearestLetter_88 hl (k := 6) rfl (nl_inc ha2 ht_16) (by decide) rfl (fun ls hl => ?_)
              refine lv_goto (tgt := 16) hx hb dX10_nearestLetter_91 (by decide) ?_
              exact ih_16 (t6 + 1) (nlL a t6) (by omega) (by first | assumption | omega) (by first | assumption | omega) (by first | rfl | (rw [nlG, ← hb_16, e1, e2, if_neg (Int64.not_lt.mpr (by assumption))]; exact hb_16) | (rw [nlG, ← hb_16, e1, e2, if_neg (Int64.not_lt.mpr (by assumption))]) | (rw [nlG, ← hb_16, e1, e2, if_pos (Int64.not_le.mp (by assumption))])) _ _ _ hP hD hS (lv_sub hl [4, 5, 6, 1, 0] rfl)
  exact cut_16 _ 0 ((nI 1) - (nI a)) (Nat.lt_succ_self _) (by first | assumption | omega) (by first | assumption | omega) (by first | rfl | (rw [nlG, ← hb_16, e1, e2, if_neg (Int64.not_lt.mpr (by assumption))]; exact hb_16) | (rw [nlG, ← hb_16, e1, e2, if_neg (Int64.not_lt.mpr (by assumption))]) | (rw [nlG, ← hb_16, e1, e2, if_pos (Int64.not_le.mp (by assumption))])) _ _ _ hP hD hS (lv_sub hl [2, 3, 4, 1, 0] rfl)
