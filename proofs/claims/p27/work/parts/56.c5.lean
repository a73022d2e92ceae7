
def gtB (d : Nat → Int32) (x : Int32) : Nat → Nat × Int32
  | 0 => (0, -1)
  | c + 1 => if bt1 x c = nI 0 ∧ (gtB d x c).2 < d c then (c, d c) else gtB d x c
theorem gt_y {d : Nat → Int32} {x s : Int32} {k b : Nat} (hb : (b, s) = gtB d x k) (h1 : bt1 x k = nI 0) (h2 : ¬ d k ≤ s) : (k, d k) = gtB d x (k + 1) := by
  rw [gtB, if_pos ⟨h1, by rw [← hb]; exact Int32.not_le.mp h2⟩]
theorem gt_n1 {d : Nat → Int32} {x s : Int32} {k b : Nat} (hb : (b, s) = gtB d x k) (h1 : ¬ bt1 x k = nI 0) : (b, s) = gtB d x (k + 1) := by
  rw [gtB, if_neg (fun q => h1 q.1)]; exact hb
theorem gt_n2 {d : Nat → Int32} {x s : Int32} {k b : Nat} (hb : (b, s) = gtB d x k) (h2 : d k ≤ s) : (b, s) = gtB d x (k + 1) := by
  rw [gtB, if_neg (fun q => by rw [← hb] at q; exact Int32.not_lt.mpr h2 q.2)]; exact hb
set_option maxRecDepth 20000 in
theorem ggX6_greatest_X9_product : GoodIn wsX6_greatest wsX9_product := goodIn_r _ [7] rfl (by decide +kernel)
set_option maxRecDepth 20000 in
theorem gX6_greatest_X9_product_n55 : GoodIn wsX6_greatest (wsX9_product) := ggX6_greatest_X9_product
theorem bdX6_greatest_0 : (decode cX6_greatest 0 = .ok (.iconst 0, 1)) ∧ (decode cX6_greatest 1 = .ok (.istore_n 2, 1)) ∧ (decode cX6_greatest 2 = .ok (.iconst (-1), 1)) ∧ (decode cX6_greatest 3 = .ok (.istore_n 3, 1)) ∧ (decode cX6_greatest 4 = .ok (.iconst 0, 1)) ∧ (decode cX6_greatest 5 = .ok (.istore 4, 2)) ∧ (decode cX6_greatest 7 = .ok (.iload 4, 2)) ∧ (decode cX6_greatest 9 = .ok (.aload_n 0, 1)) ∧ (decode cX6_greatest 10 = .ok (.getfield 21, 3)) ∧ (decode cX6_greatest 13 = .ok (.getfield 36, 3)) ∧ (decode cX6_greatest 16 = .ok (.if_icmp .ge 53, 3)) ∧ (decode cX6_greatest 19 = .ok (.aload_n 0, 1)) ∧ (decode cX6_greatest 20 = .ok (.getfield 21, 3)) ∧ (decode cX6_greatest 23 = .ok (.getfield 48, 3)) ∧ (decode cX6_greatest 26 = .ok (.aload_n 0, 1)) ∧ (decode cX6_greatest 27 = .ok (.getfield 21, 3)) := by decide +kernel
theorem dX6_greatest_0 : decode cX6_greatest 0 = .ok (.iconst 0, 1) := bdX6_greatest_0.1
theorem dX6_greatest_1 : decode cX6_greatest 1 = .ok (.istore_n 2, 1) := bdX6_greatest_0.2.1
theorem dX6_greatest_2 : decode cX6_greatest 2 = .ok (.iconst (-1), 1) := bdX6_greatest_0.2.2.1
theorem dX6_greatest_3 : decode cX6_greatest 3 = .ok (.istore_n 3, 1) := bdX6_greatest_0.2.2.2.1
theorem dX6_greatest_4 : decode cX6_greatest 4 = .ok (.iconst 0, 1) := bdX6_greatest_0.2.2.2.2.1
theorem dX6_greatest_5 : decode cX6_greatest 5 = .ok (.istore 4, 2) := bdX6_greatest_0.2.2.2.2.2.1
theorem dX6_greatest_7 : decode cX6_greatest 7 = .ok (.iload 4, 2) := bdX6_greatest_0.2.2.2.2.2.2.1
theorem dX6_greatest_9 : decode cX6_greatest 9 = .ok (.aload_n 0, 1) := bdX6_greatest_0.2.2.2.2.2.2.2.1
theorem dX6_greatest_10 : decode cX6_greatest 10 = .ok (.getfield 21, 3) := bdX6_greatest_0.2.2.2.2.2.2.2.2.1
theorem dX6_greatest_13 : decode cX6_greatest 13 = .ok (.getfield 36, 3) := bdX6_greatest_0.2.2.2.2.2.2.2.2.2.1
theorem dX6_greatest_16 : decode cX6_greatest 16 = .ok (.if_icmp .ge 53, 3) := bdX6_greatest_0.2.2.2.2.2.2.2.2.2.2.1
theorem dX6_greatest_19 : decode cX6_greatest 19 = .ok (.aload_n 0, 1) := bdX6_greatest_0.2.2.2.2.2.2.2.2.2.2.2.1
theorem dX6_greatest_20 : decode cX6_greatest 20 = .ok (.getfield 21, 3) := bdX6_greatest_0.2.2.2.2.2.2.2.2.2.2.2.2.1
theorem dX6_greatest_23 : decode cX6_greatest 23 = .ok (.getfield 48, 3) := bdX6_greatest_0.2.2.2.2.2.2.2.2.2.2.2.2.2.1
theorem dX6_greatest_26 : decode cX6_greatest 26 = .ok (.aload_n 0, 1) := bdX6_greatest_0.2.2.2.2.2.2.2.2.2.2.2.2.2.2.1
theorem dX6_greatest_27 : decode cX6_greatest 27 = .ok (.getfield 21, 3) := bdX6_greatest_0.2.2.2.2.2.2.2.2.2.2.2.2.2.2.2
theorem bdX6_greatest_30 : (decode cX6_greatest 30 = .ok (.getfield 52, 3)) ∧ (decode cX6_greatest 33 = .ok (.iload 4, 2)) ∧ (decode cX6_greatest 35 = .ok (.iload 4, 2)) ∧ (decode cX6_greatest 37 = .ok (.invokestatic 55, 3)) ∧ (decode cX6_greatest 40 = .ok (.istore 5, 2)) ∧ (decode cX6_greatest 42 = .ok (.iload_n 1, 1)) ∧ (decode cX6_greatest 43 = .ok (.iload 4, 2)) ∧ (decode cX6_greatest 45 = .ok (.ishr, 1)) ∧ (decode cX6_greatest 46 = .ok (.iconst 1, 1)) ∧ (decode cX6_greatest 47 = .ok (.iand, 1)) ∧ (decode cX6_greatest 48 = .ok (.ifCond .ne 15, 3)) ∧ (decode cX6_greatest 51 = .ok (.iload 5, 2)) ∧ (decode cX6_greatest 53 = .ok (.iload_n 3, 1)) ∧ (decode cX6_greatest 54 = .ok (.if_icmp .le 9, 3)) ∧ (decode cX6_greatest 57 = .ok (.iload 4, 2)) ∧ (decode cX6_greatest 59 = .ok (.istore_n 2, 1)) := by decide +kernel
theorem dX6_greatest_30 : decode cX6_greatest 30 = .ok (.getfield 52, 3) := bdX6_greatest_30.1
theorem dX6_greatest_33 : decode cX6_greatest 33 = .ok (.iload 4, 2) := bdX6_greatest_30.2.1
theorem dX6_greatest_35 : decode cX6_greatest 35 = .ok (.iload 4, 2) := bdX6_greatest_30.2.2.1
theorem dX6_greatest_37 : decode cX6_greatest 37 = .ok (.invokestatic 55, 3) := bdX6_greatest_30.2.2.2.1
theorem dX6_greatest_40 : decode cX6_greatest 40 = .ok (.istore 5, 2) := bdX6_greatest_30.2.2.2.2.1
theorem dX6_greatest_42 : decode cX6_greatest 42 = .ok (.iload_n 1, 1) := bdX6_greatest_30.2.2.2.2.2.1
theorem dX6_greatest_43 : decode cX6_greatest 43 = .ok (.iload 4, 2) := bdX6_greatest_30.2.2.2.2.2.2.1
theorem dX6_greatest_45 : decode cX6_greatest 45 = .ok (.ishr, 1) := bdX6_greatest_30.2.2.2.2.2.2.2.1
theorem dX6_greatest_46 : decode cX6_greatest 46 = .ok (.iconst 1, 1) := bdX6_greatest_30.2.2.2.2.2.2.2.2.1
theorem dX6_greatest_47 : decode cX6_greatest 47 = .ok (.iand, 1) := bdX6_greatest_30.2.2.2.2.2.2.2.2.2.1
theorem dX6_greatest_48 : decode cX6_greatest 48 = .ok (.ifCond .ne 15, 3) := bdX6_greatest_30.2.2.2.2.2.2.2.2.2.2.1
theorem dX6_greatest_51 : decode cX6_greatest 51 = .ok (.iload 5, 2) := bdX6_greatest_30.2.2.2.2.2.2.2.2.2.2.2.1
theorem dX6_greatest_53 : decode cX6_greatest 53 = .ok (.iload_n 3, 1) := bdX6_greatest_30.2.2.2.2.2.2.2.2.2.2.2.2.1
theorem dX6_greatest_54 : decode cX6_greatest 54 = .ok (.if_icmp .le 9, 3) := bdX6_greatest_30.2.2.2.2.2.2.2.2.2.2.2.2.2.1
theorem dX6_greatest_57 : decode cX6_greatest 57 = .ok (.iload 4, 2) := bdX6_greatest_30.2.2.2.2.2.2.2.2.2.2.2.2.2.2.1
theorem dX6_greatest_59 : decode cX6_greatest 59 = .ok (.istore_n 2, 1) := bdX6_greatest_30.2.2.2.2.2.2.2.2.2.2.2.2.2.2.2
theorem bdX6_greatest_60 : (decode cX6_greatest 60 = .ok (.iload 5, 2)) ∧ (decode cX6_greatest 62 = .ok (.istore_n 3, 1)) ∧ (decode cX6_greatest 63 = .ok (.iinc 4 1, 3)) ∧ (decode cX6_greatest 66 = .ok (.goto (-59), 3)) ∧ (decode cX6_greatest 69 = .ok (.iload_n 2, 1)) ∧ (decode cX6_greatest 70 = .ok (.ireturn, 1)) := by decide +kernel
theorem dX6_greatest_60 : decode cX6_greatest 60 = .ok (.iload 5, 2) := bdX6_greatest_60.1
theorem dX6_greatest_62 : decode cX6_greatest 62 = .ok (.istore_n 3, 1) := bdX6_greatest_60.2.1
theorem dX6_greatest_63 : decode cX6_greatest 63 = .ok (.iinc 4 1, 3) := bdX6_greatest_60.2.2.1
theorem dX6_greatest_66 : decode cX6_greatest 66 = .ok (.goto (-59), 3) := bdX6_greatest_60.2.2.2.1
theorem dX6_greatest_69 : decode cX6_greatest 69 = .ok (.iload_n 2, 1) := bdX6_greatest_60.2.2.2.2.1
theorem dX6_greatest_70 : decode cX6_greatest 70 = .ok (.ireturn, 1) := bdX6_greatest_60.2.2.2.2.2
set_option maxHeartbeats 4000000 in
set_option maxRecDepth 100000 in
theorem k_X6_greatest (l : Launch) (dC : Nat → ClassId) (dI : Nat → Nat → Nat) (h : Nat → Nat) (cs : Nat → ClassId) (sz : Nat) (I : Nat → Int32) (L : Nat → Int64) (A : Nat → Nat → Int32) (Q : Nat → Nat → Int64) (G : Nat → Nat → Nat → Int32) (J : Nat → Nat → Nat → Int64) (x : Int32) (R M : Nat) (hR : I 120 = nI R) (hR1 : 1 ≤ R) (hR5 : R ≤ 5) (hM : I 121 = nI M) (hM1 : 1 ≤ M) (hM4 : M ≤ 4) : Met l yX6_greatest wsX6_greatest ({ frames := 1, cells := 0, slots := 0, locals := 25 }) (va_Pc [.ref (h 107), .int x] (xPre (dC, dI) (wTaker h cs I L A Q G J) (tysA cs) sz)) (va_Qi (fun (r : Int32) (u : CS) => (r = nI (gtB (fun t => prodF (G 0) t t R) x M).1 ∧ (gtB (fun t => prodF (G 0) t t R) x M).1 < 4) ∧ u = (I, L, A, Q, G, J)) (xB (dC, dI) (tysA cs) (va_A (wTaker h cs I L A Q G J) sz) (fun u : CS => wTaker h cs u.1 u.2.1 u.2.2.1 u.2.2.2.1 u.2.2.2.2.1 u.2.2.2.2.2)) (va_A (wTaker h cs I L A Q G J) sz)) 0 0 (va_A (wTaker h cs I L A Q G J) sz) := by
  refine Met.ofW (cc := cX6_greatest) (maxL := 6) (ret := (some .int)) (by decide) rfl ?_
  intro p e s m args below meth c s₁ B hml hv
  obtain ⟨rfl, hsz, hP, hK, hD0, hN⟩ := hv
  have hx := B.exec
  have hb := B.bytes
  have hr := B.returns
  have hts := atoms_spec (ws := wsX6_greatest) B.pre
  have hown : s.vm.findClass RX6 = some m.cls := findClass_of_methodNamed B.named
  have hlocks := B.notSynchronized
  subst hsz
  have hD := hD0.self (sz := s.heap.size)
  generalize hAe : va_A (wTaker h cs I L A Q G J) s.heap.size = A0 at hD ⊢
  have hA : ∀ q : Nat, s.heap.size ≤ q → A0 q := fun q h => by rw [← hAe]; exact Or.inr h
  have hl := lv_entry ([.ref (h 107), .int x]) (n := 6) (Nat.le_of_ble_eq_true rfl)
  rw [lg_entry_eq]
  generalize (lg_sl ([.ref (h 107), .int x]) ++ List.replicate (6 - (lg_sl ([.ref (h 107), .int x])).length) Slot.unset).toArray = ls at hl ⊢
  have hl : lv_has ls 6 [(0, .ref (h 107)), (1, .int x)] := hl
  generalize hH : s.heap = H at hP ⊢
  have hS : va_S A0 s.heap H [] := by rw [← hH]; exact va_S.rf
  have hinX6 : ∀ w ∈ wsX60, w ∈ wsX6_greatest := by decide +kernel
  have hinX3 : ∀ w ∈ wsX30, w ∈ wsX6_greatest := by decide +kernel
  refine lv_iconst (v := nI 0) hx hb dX6_greatest_0 (by decide) ?_
  refine lv_istore_n (lv' := [(2, .int (nI 0)), (0, .ref (h 107)), (1, .int x)]) hx hb dX6_greatest_1 rfl hl (by decide) rfl (fun ls hl => ?_)
  refine lv_iconst (v := (-1)) hx hb dX6_greatest_2 (by decide) ?_
  refine lv_istore_n (lv' := [(3, .int (-1)), (2, .int (nI 0)), (0, .ref (h 107)), (1, .int x)]) hx hb dX6_greatest_3 rfl hl (by decide) rfl (fun ls hl => ?_)
  refine lv_iconst (v := nI 0) hx hb dX6_greatest_4 (by decide) ?_
  refine lv_istore (lv' := [(4, .int (nI 0)), (3, .int (-1)), (2, .int (nI 0)), (0, .ref (h 107)), (1, .int x)]) hx hb dX6_greatest_5 hl (by decide) rfl (fun ls hl => ?_)
  have cut_7 : ∀ (nf : Nat) (k : Nat) (b2 : Nat) (s3 : Int32), (M - k) < nf → (k ≤ M) → ((b2, s3) = gtB (fun t => prodF (G 0) t t R) x k) → (b2 < 4) → ∀ (H : Heap) (locs : List Loc) (ls : Array Slot), va_P (dC, dI) vwCl (wTaker h cs I L A Q G J) H → va_D A0 (wTaker h cs I L A Q G J) → va_S A0 s.heap H locs → lv_has ls 6 [(0, .ref (h 107)), (1, .int x), (2, .int (nI b2)), (3, .int s3), (4, .int (nI k))] → W p l e (headSpec wsX6_greatest ({ frames := 1, cells := 0, slots := 0, locals := 25 })).room s m ([.ref (h 107), .int x] : List Value).toArray below meth c H locs 0 0 (MQ below (va_Qi (fun (r : Int32) (u : CS) => (r = nI (gtB (fun t => prodF (G 0) t t R) x M).1 ∧ (gtB (fun t => prodF (G 0) t t R) x M).1 < 4) ∧ u = (I, L, A, Q, G, J)) (xB (dC, dI) (tysA cs) A0 (fun u : CS => wTaker h cs u.1 u.2.1 u.2.2.1 u.2.2.2.1 u.2.2.2.2.1 u.2.2.2.2.2)) A0) ([.ref (h 107), .int x] : List Value).toArray s 0 0 A0) (F0 m 7 ls []) := by
    intro nf
    induction nf with
    | zero => intro k b2 s3 hm; exact absurd hm (Nat.not_lt_zero _)
    | succ nf ih_7 =>
      intro k b2 s3 hm_7 hk_7 hb_7 hb4_7 H locs ls hP hD hS hl
      refine lv_iload hx hb dX6_greatest_7 (lv_at hl 4 rfl) ?_
      refine lv_aload_n hx hb dX6_greatest_9 rfl (lv_at hl 0 rfl) ?_
      refine va_get (D := (dC, dI)) (ci := 6) (v := .ref (h 101)) (C := RX6) (T := TX6) (N := 4) hx hb hts hinX6 hown hK hP 0 rfl rfl 0 (by decide) (hts (.fieldLink RX6 21 "MixedWords$Taker" "mix" "LMixedWords$Mix;") (by decide +kernel)) (fun _ h9 => h9) rfl dX6_greatest_10 ?_
      refine va_get (D := (dC, dI)) (ci := 3) (v := .int (I 121)) (C := RX3) (T := TX3) (N := 6) hx hb hts hinX3 hown hK hP 4 rfl rfl 1 (by decide) (hts (.fieldLink RX6 36 "MixedWords$Mix" "width" "I") (by decide +kernel)) (fun _ h9 => h9) rfl dX6_greatest_13 ?_
      refine xt_i (y := nI M) (hM) ?_
      refine xn_ge (tgt := 69) hx hb dX6_greatest_16 (by decide) (by omega) (by omega) (fun c_16_0 => ?_) (fun c_16_0 => ?_)
      · skip
        refine lv_iload_n hx hb dX6_greatest_69 rfl (lv_at hl 2 rfl) ?_
        exact xr_i (v := (nI b2)) hx hb hr hlocks hK hS dX6_greatest_70 (I, L, A, Q, G, J) ⟨(by have e9 : k = M := (by omega); rw [e9] at hb_7; rw [← hb_7]; exact ⟨rfl, hb4_7⟩), rfl⟩ hP hD
      · skip
        refine lv_aload_n hx hb dX6_greatest_19 rfl (lv_at hl 0 rfl) ?_
        refine va_get (D := (dC, dI)) (ci := 6) (v := .ref (h 101)) (C := RX6) (T := TX6) (N := 4) hx hb hts hinX6 hown hK hP 0 rfl rfl 0 (by decide) (hts (.fieldLink RX6 21 "MixedWords$Taker" "mix" "LMixedWords$Mix;") (by decide +kernel)) (fun _ h9 => h9) rfl dX6_greatest_20 ?_
        refine va_get (D := (dC, dI)) (ci := 3) (v := .ref (h 130)) (C := RX3) (T := TX3) (N := 6) hx hb hts hinX3 hown hK hP 4 rfl rfl 4 (by decide) (hts (.fieldLink RX6 48 "MixedWords$Mix" "cells" "[[I") (by decide +kernel)) (fun _ h9 => h9) rfl dX6_greatest_23 ?_
        refine lv_aload_n hx hb dX6_greatest_26 rfl (lv_at hl 0 rfl) ?_
        refine va_get (D := (dC, dI)) (ci := 6) (v := .ref (h 101)) (C := RX6) (T := TX6) (N := 4) hx hb hts hinX6 hown hK hP 0 rfl rfl 0 (by decide) (hts (.fieldLink RX6 21 "MixedWords$Taker" "mix" "LMixedWords$Mix;") (by decide +kernel)) (fun _ h9 => h9) rfl dX6_greatest_27 ?_
        refine va_get (D := (dC, dI)) (ci := 3) (v := .int (I 120)) (C := RX3) (T := TX3) (N := 6) hx hb hts hinX3 hown hK hP 4 rfl rfl 0 (by decide) (hts (.fieldLink RX6 52 "MixedWords$Mix" "height" "I") (by decide +kernel)) (fun _ h9 => h9) rfl dX6_greatest_30 ?_
        refine xt_i (y := nI R) (hR) ?_
        refine lv_iload hx hb dX6_greatest_33 (lv_at hl 4 rfl) ?_
        refine lv_iload hx hb dX6_greatest_35 (lv_at hl 4 rfl) ?_
        refine xj_i (wc := (wGrid (fun k => h (k + 129)) cs I L A Q (fun _ => G 0) J)) (wr := [(h 107, .inr (6, [.ref (h 101), .ref (h 190), .ref (h 191), .ref (h 192)])), (h 190, .inl (cs 0, 5, .inl (A 190))), (h 191, .inl (cs 0, 4, .inl (A 191))), (h 192, .inl (cs 0, 4, .inl (A 192))), (h 101, .inr (3, [.int (I 120), .int (I 121), .int (I 122), .int (I 123), .ref (h 130), .ref (h 136)])), (h 136, .inl (cs 0, 5, .inl (A 136)))]) hP hD hS hA [5, 6, 7, 8, 9, 10] [0, 1, 2, 3, 4, 11] rfl rfl (by decide +kernel) (by decide +kernel) (va_runSN (As := [.ref (h 130), .int (nI R), .int (nI k), .int (nI k)]) (rest := []) ⟨hx, hb, hml, hown, hts⟩ (k_X9_product l dC dI (fun k => h (k + 129)) cs H.size I L A Q (fun _ => G 0) J R k k (by first | assumption | omega) (by first | assumption | omega) (by first | assumption | omega)) ⟨va_cnB (host := "MixedWords") 4 hts gX6_greatest_X9_product_n55 rfl rfl rfl hN.2.2.2.2.2.2.2.1 (hts (.initialized RX9) (by decide +kernel)) (by decide +kernel) ⟨Nat.le_of_ble_eq_true rfl, Nat.le_of_ble_eq_true rfl⟩, hts (.static yX9_product) (by decide +kernel), trivial⟩ (xpS (wc := (wGrid (fun k => h (k + 129)) cs I L A Q (fun _ => G 0) J)) hP hD hK hN [5, 6, 7, 8, 9, 10] rfl (by decide) _) rfl rfl hl.1 rfl (lv_room (Nat.le_of_ble_eq_true rfl)) dX6_greatest_37 ⟨Nat.zero_le _, Nat.zero_le _⟩) (fun r_3 u_2 H locs hw hP hD hS => ?_)
        obtain ⟨hf_4, rfl⟩ := hw
        have hP : va_P (dC, dI) vwCl (wTaker h cs I L A Q G J) H := xP_sub hP [0, 1, 2, 3, 4, 6, 7, 8, 9, 10, 11, 5] rfl
        have hD : va_D A0 (wTaker h cs I L A Q G J) := hD.sub [0, 1, 2, 3, 4, 6, 7, 8, 9, 10, 11, 5] (by decide +kernel) rfl
        obtain rfl := hf_4
        refine lv_istore (lv' := [(5, .int (prodF (G 0) k k R)), (0, .ref (h 107)), (1, .int x), (2, .int (nI b2)), (3, .int s3), (4, .int (nI k))]) hx hb dX6_greatest_40 hl (by decide) rfl (fun ls hl => ?_)
        refine lv_iload_n hx hb dX6_greatest_42 rfl (lv_at hl 2 rfl) ?_
        refine lv_iload hx hb dX6_greatest_43 (lv_at hl 5 rfl) ?_
        refine lv_ishr hx hb dX6_greatest_45 ?_
        refine lv_iconst (v := nI 1) hx hb dX6_greatest_46 (by decide) ?_
        refine lv_iand hx hb dX6_greatest_47 ?_
        refine lv_if_ne (tgt := 63) hx hb dX6_greatest_48 (by decide) (fun c_48_4 => ?_) (fun c_48_4 => ?_)
        · skip
          have hbit : ¬ bt1 x k = nI 0 := c_48_4
          refine lv_iinc (v := nI (k + 1)) (lv' := [(4, .int (nI (k + 1))), (5, .int (prodF (G 0) k k R)), (0, .ref (h 107)), (1, .int x), (2, .int (nI b2)), (3, .int s3)]) hx hb dX6_greatest_63 hl (k := 5) rfl (nI_1 _) (by decide) rfl (fun ls hl => ?_)
          refine lv_goto (tgt := 7) hx hb dX6_greatest_66 (by decide) ?_
          exact ih_7 (k + 1) b2 s3 (by omega) (by first | assumption | omega) (by first | rfl | exact gt_y hb_7 hbit (by assumption) | exact gt_n1 hb_7 hbit | exact gt_n2 hb_7 (by assumption)) (by first | assumption | omega) _ _ _ hP hD hS (lv_sub hl [2, 3, 4, 5, 0] rfl)
        · skip
          have hbit : bt1 x k = nI 0 := c_48_4
          refine lv_iload hx hb dX6_greatest_51 (lv_at hl 0 rfl) ?_
          refine lv_iload_n hx hb dX6_greatest_53 rfl (lv_at hl 4 rfl) ?_
          refine lv_icmp_le (tgt := 63) hx hb dX6_greatest_54 (by decide) (fun c_54_5 => ?_) (fun c_54_5 => ?_)
          · skip
            refine lv_iinc (v := nI (k + 1)) (lv' := [(4, .int (nI (k + 1))), (5, .int (prodF (G 0) k k R)), (0, .ref (h 107)), (1, .int x), (2, .int (nI b2)), (3, .int s3)]) hx hb dX6_greatest_63 hl (k := 5) rfl (nI_1 _) (by decide) rfl (fun ls hl => ?_)
            refine lv_goto (tgt := 7) hx hb dX6_greatest_66 (by decide) ?_
            exact ih_7 (k + 1) b2 s3 (by omega) (by first | assumption | omega) (by first | rfl | exact gt_y hb_7 hbit (by assumption) | exact gt_n1 hb_7 hbit | exact gt_n2 hb_7 (by assumption)) (by first | assumption | omega) _ _ _ hP hD hS (lv_sub hl [2, 3, 4, 5, 0] rfl)
          · skip
            refine lv_iload hx hb dX6_greatest_57 (lv_at hl 5 rfl) ?_
            refine lv_istore_n (lv' := [(2, .int (nI k)), (5, .int (prodF (G 0) k k R)), (0, .ref (h 107)), (1, .int x), (3, .int s3), (4, .int (nI k))]) hx hb dX6_greatest_59 rfl hl (by decide) rfl (fun ls hl => ?_)
            refine lv_iload hx hb dX6_greatest_60 (lv_at hl 1 rfl) ?_
            refine lv_istore_n (lv' := [(3, .int (prodF (G 0) k k R)), (2, .int (nI k)), (5, .int (prodF (G 0) k k R)), (0, .ref (h 107)), (1, .int x), (4, .int (nI k))]) hx hb dX6_greatest_62 rfl hl (by decide) rfl (fun ls hl => ?_)
            refine lv_iinc (v := nI (k + 1)) (lv' := [(4, .int (nI (k + 1))), (3, .int (prodF (G 0) k k R)), (2, .int (nI k)), (5, .int (prodF (G 0) k k R)), (0, .ref (h 107)), (1, .int x)]) hx hb dX6_greatest_63 hl (k := 5) rfl (nI_1 _) (by decide) rfl (fun ls hl => ?_)
            refine lv_goto (tgt := 7) hx hb dX6_greatest_66 (by decide) ?_
            exact ih_7 (k + 1) k (prodF (G 0) k k R) (by omega) (by first | assumption | omega) (by first | rfl | exact gt_y hb_7 hbit (by assumption) | exact gt_n1 hb_7 hbit | exact gt_n2 hb_7 (by assumption)) (by first | assumption | omega) _ _ _ hP hD hS (lv_sub hl [4, 5, 2, 1, 0] rfl)
  exact cut_7 _ 0 0 (-1) (Nat.lt_succ_self _) (by first | assumption | omega) (by first | rfl | exact gt_y hb_7 hbit (by assumption) | exact gt_n1 hb_7 hbit | exact gt_n2 hb_7 (by assumption)) (by first | assumption | omega) _ _ _ hP hD hS (lv_sub hl [3, 4, 2, 1, 0] rfl)
