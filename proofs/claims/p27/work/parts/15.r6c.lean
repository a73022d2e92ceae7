set_option maxRecDepth 20000 in
theorem ggX10_order_X10_isColumn : GoodIn wsX10_order wsX10_isColumn := goodIn_r _ [5, 6, 7, 8, 4, 9, 26, 27, 28, 29, 30, 31, 32, 33, 34, 35, 36, 37, 38, 39, 40, 41, 42, 43, 44, 45, 46, 47, 48, 49, 50, 51, 52, 53] rfl (by decide +kernel)
set_option maxRecDepth 20000 in
theorem gX10_order_X10_isColumn : GoodIn wsX10_order (wsV RX10 90 RX10 yX10_isColumn wsX10_isColumn) := goodIn_app (goodIn_of _ (by decide +kernel)) ggX10_order_X10_isColumn
set_option maxRecDepth 20000 in
theorem ggX10_order_X10_lay : GoodIn wsX10_order wsX10_lay := goodIn_r _ [13, 14, 6, 15, 16, 17, 26, 27, 28, 29, 30, 31, 32, 33, 34, 35, 36, 37, 38, 39, 40, 41, 42, 43, 44, 45, 46, 47, 48, 49, 50, 51, 52, 53] rfl (by decide +kernel)
set_option maxRecDepth 20000 in
theorem gX10_order_X10_lay : GoodIn wsX10_order (wsV RX10 172 RX10 yX10_lay wsX10_lay) := goodIn_app (goodIn_of _ (by decide +kernel)) ggX10_order_X10_lay
set_option maxRecDepth 20000 in
theorem ggX10_order_X10_nextTaken : GoodIn wsX10_order wsX10_nextTaken := goodIn_r _ [21, 6, 22, 23, 24, 4, 25, 14, 26, 27, 28, 29, 30, 31, 32, 33, 34, 35, 36, 37, 38, 39, 40, 41, 42, 43, 44, 45, 46, 47, 48, 49, 50, 51, 52, 53] rfl (by decide +kernel)
set_option maxRecDepth 20000 in
theorem gX10_order_X10_nextTaken : GoodIn wsX10_order (wsV RX10 219 RX10 yX10_nextTaken wsX10_nextTaken) := goodIn_app (goodIn_of _ (by decide +kernel)) ggX10_order_X10_nextTaken
theorem bdX10_order_0 : (decode cX10_order 0 = .ok (.aload_n 0, 1)) ∧ (decode cX10_order 1 = .ok (.iload_n 1, 1)) ∧ (decode cX10_order 2 = .ok (.invokevirtual 90, 3)) ∧ (decode cX10_order 5 = .ok (.ifCond .ne 5, 3)) ∧ (decode cX10_order 8 = .ok (.iconst (-1), 1)) ∧ (decode cX10_order 9 = .ok (.ireturn, 1)) ∧ (decode cX10_order 10 = .ok (.aload_n 0, 1)) ∧ (decode cX10_order 11 = .ok (.invokevirtual 172, 3)) ∧ (decode cX10_order 14 = .ok (.iconst 0, 1)) ∧ (decode cX10_order 15 = .ok (.istore_n 2, 1)) ∧ (decode cX10_order 16 = .ok (.iconst (-1), 1)) ∧ (decode cX10_order 17 = .ok (.istore_n 3, 1)) ∧ (decode cX10_order 18 = .ok (.iconst 0, 1)) ∧ (decode cX10_order 19 = .ok (.istore 4, 2)) ∧ (decode cX10_order 21 = .ok (.iload 4, 2)) ∧ (decode cX10_order 23 = .ok (.iload_n 1, 1)) := by decide +kernel
theorem dX10_order_0 : decode cX10_order 0 = .ok (.aload_n 0, 1) := bdX10_order_0.1
theorem dX10_order_1 : decode cX10_order 1 = .ok (.iload_n 1, 1) := bdX10_order_0.2.1
theorem dX10_order_2 : decode cX10_order 2 = .ok (.invokevirtual 90, 3) := bdX10_order_0.2.2.1
theorem dX10_order_5 : decode cX10_order 5 = .ok (.ifCond .ne 5, 3) := bdX10_order_0.2.2.2.1
theorem dX10_order_8 : decode cX10_order 8 = .ok (.iconst (-1), 1) := bdX10_order_0.2.2.2.2.1
theorem dX10_order_9 : decode cX10_order 9 = .ok (.ireturn, 1) := bdX10_order_0.2.2.2.2.2.1
theorem dX10_order_10 : decode cX10_order 10 = .ok (.aload_n 0, 1) := bdX10_order_0.2.2.2.2.2.2.1
theorem dX10_order_11 : decode cX10_order 11 = .ok (.invokevirtual 172, 3) := bdX10_order_0.2.2.2.2.2.2.2.1
theorem dX10_order_14 : decode cX10_order 14 = .ok (.iconst 0, 1) := bdX10_order_0.2.2.2.2.2.2.2.2.1
theorem dX10_order_15 : decode cX10_order 15 = .ok (.istore_n 2, 1) := bdX10_order_0.2.2.2.2.2.2.2.2.2.1
theorem dX10_order_16 : decode cX10_order 16 = .ok (.iconst (-1), 1) := bdX10_order_0.2.2.2.2.2.2.2.2.2.2.1
theorem dX10_order_17 : decode cX10_order 17 = .ok (.istore_n 3, 1) := bdX10_order_0.2.2.2.2.2.2.2.2.2.2.2.1
theorem dX10_order_18 : decode cX10_order 18 = .ok (.iconst 0, 1) := bdX10_order_0.2.2.2.2.2.2.2.2.2.2.2.2.1
theorem dX10_order_19 : decode cX10_order 19 = .ok (.istore 4, 2) := bdX10_order_0.2.2.2.2.2.2.2.2.2.2.2.2.2.1
theorem dX10_order_21 : decode cX10_order 21 = .ok (.iload 4, 2) := bdX10_order_0.2.2.2.2.2.2.2.2.2.2.2.2.2.2.1
theorem dX10_order_23 : decode cX10_order 23 = .ok (.iload_n 1, 1) := bdX10_order_0.2.2.2.2.2.2.2.2.2.2.2.2.2.2.2
theorem bdX10_order_24 : (decode cX10_order 24 = .ok (.if_icmp .gt 21, 3)) ∧ (decode cX10_order 27 = .ok (.aload_n 0, 1)) ∧ (decode cX10_order 28 = .ok (.iload_n 2, 1)) ∧ (decode cX10_order 29 = .ok (.invokevirtual 219, 3)) ∧ (decode cX10_order 32 = .ok (.istore_n 3, 1)) ∧ (decode cX10_order 33 = .ok (.iload_n 2, 1)) ∧ (decode cX10_order 34 = .ok (.iconst 1, 1)) ∧ (decode cX10_order 35 = .ok (.iload_n 3, 1)) ∧ (decode cX10_order 36 = .ok (.ishl, 1)) ∧ (decode cX10_order 37 = .ok (.ior, 1)) ∧ (decode cX10_order 38 = .ok (.istore_n 2, 1)) ∧ (decode cX10_order 39 = .ok (.iinc 4 1, 3)) ∧ (decode cX10_order 42 = .ok (.goto (-21), 3)) ∧ (decode cX10_order 45 = .ok (.iload_n 3, 1)) ∧ (decode cX10_order 46 = .ok (.ireturn, 1)) := by decide +kernel
theorem dX10_order_24 : decode cX10_order 24 = .ok (.if_icmp .gt 21, 3) := bdX10_order_24.1
theorem dX10_order_27 : decode cX10_order 27 = .ok (.aload_n 0, 1) := bdX10_order_24.2.1
theorem dX10_order_28 : decode cX10_order 28 = .ok (.iload_n 2, 1) := bdX10_order_24.2.2.1
theorem dX10_order_29 : decode cX10_order 29 = .ok (.invokevirtual 219, 3) := bdX10_order_24.2.2.2.1
theorem dX10_order_32 : decode cX10_order 32 = .ok (.istore_n 3, 1) := bdX10_order_24.2.2.2.2.1
theorem dX10_order_33 : decode cX10_order 33 = .ok (.iload_n 2, 1) := bdX10_order_24.2.2.2.2.2.1
theorem dX10_order_34 : decode cX10_order 34 = .ok (.iconst 1, 1) := bdX10_order_24.2.2.2.2.2.2.1
theorem dX10_order_35 : decode cX10_order 35 = .ok (.iload_n 3, 1) := bdX10_order_24.2.2.2.2.2.2.2.1
theorem dX10_order_36 : decode cX10_order 36 = .ok (.ishl, 1) := bdX10_order_24.2.2.2.2.2.2.2.2.1
theorem dX10_order_37 : decode cX10_order 37 = .ok (.ior, 1) := bdX10_order_24.2.2.2.2.2.2.2.2.2.1
theorem dX10_order_38 : decode cX10_order 38 = .ok (.istore_n 2, 1) := bdX10_order_24.2.2.2.2.2.2.2.2.2.2.1
theorem dX10_order_39 : decode cX10_order 39 = .ok (.iinc 4 1, 3) := bdX10_order_24.2.2.2.2.2.2.2.2.2.2.2.1
theorem dX10_order_42 : decode cX10_order 42 = .ok (.goto (-21), 3) := bdX10_order_24.2.2.2.2.2.2.2.2.2.2.2.2.1
theorem dX10_order_45 : decode cX10_order 45 = .ok (.iload_n 3, 1) := bdX10_order_24.2.2.2.2.2.2.2.2.2.2.2.2.2.1
theorem dX10_order_46 : decode cX10_order 46 = .ok (.ireturn, 1) := bdX10_order_24.2.2.2.2.2.2.2.2.2.2.2.2.2.2
set_option maxHeartbeats 4000000 in
set_option maxRecDepth 100000 in
theorem k_X10_order (l : Launch) (dC : Nat → ClassId) (dI : Nat → Nat → Nat) (h : Nat → Nat) (cs : Nat → ClassId) (sz : Nat) (I : Nat → Int32) (L : Nat → Int64) (A : Nat → Nat → Int32) (Q : Nat → Nat → Int64) (x : Int32) (R M : Nat) (hR : I 0 = nI R) (hR1 : 1 ≤ R) (hR5 : R ≤ 5) (hM : I 1 = nI M) (hM1 : 1 ≤ M) (hM4 : M ≤ 4) : Met l yX10_order wsX10_order ({ frames := 2, cells := 0, slots := 0, locals := 48 }) (va_Pc [.ref (h 0), .int x] (xPre (dC, dI) (rW h cs I L A Q) (tysA cs) sz)) (va_Qi (fun (r : Int32) (u : RS) => ∃ f17 : Nat → Int32, ∃ f18 : Nat → Int32, ((∃ i : Nat, i < M ∧ x = nI i ∧ laid (A 3) R M f17 f18 ∧ r = ntF (fun t => dotF f17 t t) (tkB (fun t => dotF f17 t t) M i) M) ∨ (r = -1 ∧ (∀ i : Nat, i < M → x ≠ nI i) ∧ f17 = A 17 ∧ f18 = A 18)) ∧ u = (I, L, (va_up (va_up A 17 f17) 18 f18), Q)) (xB (dC, dI) (tysA cs) (va_A (rW h cs I L A Q) sz) (fun u : RS => rW h cs u.1 u.2.1 u.2.2.1 u.2.2.2)) (va_A (rW h cs I L A Q) sz)) 0 0 (va_A (rW h cs I L A Q) sz) := by
  refine Met.ofW (cc := cX10_order) (maxL := 5) (ret := (some .int)) (by decide) rfl ?_
  intro p e s m args below meth c s₁ B hml hv
  obtain ⟨rfl, hsz, hP, hK, hD0, hN⟩ := hv
  have hx := B.exec
  have hb := B.bytes
  have hr := B.returns
  have hts := atoms_spec (ws := wsX10_order) B.pre
  have hown : s.vm.findClass RX10 = some m.cls := findClass_of_methodNamed B.named
  have hlocks := B.notSynchronized
  subst hsz
  have hD := hD0.self (sz := s.heap.size)
  generalize hAe : va_A (rW h cs I L A Q) s.heap.size = A0 at hD ⊢
  have hA : ∀ q : Nat, s.heap.size ≤ q → A0 q := fun q h => by rw [← hAe]; exact Or.inr h
  have hl := lv_entry ([.ref (h 0), .int x]) (n := 5) (Nat.le_of_ble_eq_true rfl)
  rw [lg_entry_eq]
  generalize (lg_sl ([.ref (h 0), .int x]) ++ List.replicate (5 - (lg_sl ([.ref (h 0), .int x])).length) Slot.unset).toArray = ls at hl ⊢
  have hl : lv_has ls 5 [(0, .ref (h 0)), (1, .int x)] := hl
  generalize hH : s.heap = H at hP ⊢
  have hS : va_S A0 s.heap H [] := by rw [← hH]; exact va_S.rf
  refine lv_aload_n hx hb dX10_order_0 rfl (lv_at hl 0 rfl) ?_
  refine lv_iload_n hx hb dX10_order_1 rfl (lv_at hl 1 rfl) ?_
  refine xj_i (wc := (rW h cs I L A Q)) (wr := ([] : va_W)) hP hD hS hA [0, 1, 2, 3, 4, 5, 6, 7, 8, 9, 10, 11, 12, 13, 14, 15, 16] [] rfl rfl (by decide +kernel) (by decide +kernel) (va_runV (As := [.int x]) (rest := []) ⟨hx, hb, hml, hown, hts⟩ (k_X10_isColumn l dC dI h cs H.size I L A Q x M hM (by first | assumption | omega | exact hM1) (by first | assumption | omega | exact hM4)) (cwV 1 hts gX10_order_X10_isColumn rfl rfl rfl (by decide +kernel) ⟨Nat.le_of_ble_eq_true rfl, Nat.le_of_ble_eq_true rfl⟩) (xpV (wc := (rW h cs I L A Q)) hP hD hK hN [0, 1, 2, 3, 4, 5, 6, 7, 8, 9, 10, 11, 12, 13, 14, 15, 16] rfl (by decide) 0 (ci := 10) rfl rfl _) rfl rfl hl.1 rfl (lv_room (Nat.le_of_ble_eq_true rfl)) dX10_order_2 ⟨Nat.zero_le _, Nat.zero_le _⟩) (fun r_2 u_1 H locs hw hP hD hS => ?_)
  obtain ⟨hf_3, rfl⟩ := hw
  have hP : va_P (dC, dI) vwCl (rW h cs I L A Q) H := hP
  have hD : va_D A0 (rW h cs I L A Q) := hD
  rcases hf_3 with ⟨rfl, i_4, hi_5, hx_6⟩ | ⟨rfl, hn_7⟩
  · skip
    rw [hx_6] at hl
    refine xs_neT (tgt := 10) hx hb dX10_order_5 (by decide) (by decide) ?_
    refine lv_aload_n hx hb dX10_order_10 rfl (lv_at hl 0 rfl) ?_
    refine xj_v (wc := (rW h cs I L A Q)) (wr := ([] : va_W)) hP hD hS hA [0, 1, 2, 3, 4, 5, 6, 7, 8, 9, 10, 11, 12, 13, 14, 15, 16] [] rfl rfl (by decide +kernel) (by decide +kernel) (va_runV (As := []) (rest := []) ⟨hx, hb, hml, hown, hts⟩ (k_X10_lay l dC dI h cs H.size I L A Q R M hR (by first | assumption | omega | exact hR1) (by first | assumption | omega | exact hR5) hM (by first | assumption | omega | exact hM1) (by first | assumption | omega | exact hM4)) (cwV 0 hts gX10_order_X10_lay rfl rfl rfl (by decide +kernel) ⟨Nat.le_of_ble_eq_true rfl, Nat.le_of_ble_eq_true rfl⟩) (xpV (wc := (rW h cs I L A Q)) hP hD hK hN [0, 1, 2, 3, 4, 5, 6, 7, 8, 9, 10, 11, 12, 13, 14, 15, 16] rfl (by decide) 0 (ci := 10) rfl rfl _) rfl rfl hl.1 rfl (lv_room (Nat.le_of_ble_eq_true rfl)) dX10_order_11 ⟨Nat.zero_le _, Nat.zero_le _⟩) (fun u_9 H locs hw hP hD hS => ?_)
    obtain ⟨f17_11, f18_12, hf_13, rfl⟩ := hw
    have hP : va_P (dC, dI) vwCl (rW h cs I L (va_up (va_up A 17 f17_11) 18 f18_12) Q) H := hP
    have hD : va_D A0 (rW h cs I L (va_up (va_up A 17 f17_11) 18 f18_12) Q) := hD
    refine lv_iconst (v := nI 0) hx hb dX10_order_14 (by decide) ?_
    refine lv_istore_n (lv' := [(2, .int (nI 0)), (0, .ref (h 0)), (1, .int (nI i_4))]) hx hb dX10_order_15 rfl hl (by decide) rfl (fun ls hl => ?_)
    refine lv_iconst (v := (-1)) hx hb dX10_order_16 (by decide) ?_
    refine lv_istore_n (lv' := [(3, .int (-1)), (2, .int (nI 0)), (0, .ref (h 0)), (1, .int (nI i_4))]) hx hb dX10_order_17 rfl hl (by decide) rfl (fun ls hl => ?_)
    refine lv_iconst (v := nI 0) hx hb dX10_order_18 (by decide) ?_
    refine lv_istore (lv' := [(4, .int (nI 0)), (3, .int (-1)), (2, .int (nI 0)), (0, .ref (h 0)), (1, .int (nI i_4))]) hx hb dX10_order_19 hl (by decide) rfl (fun ls hl => ?_)
    have cut_21 : ∀ (nf : Nat) (k : Nat) (c3 : Int32), (i_4 + 1 - k) < nf → (k ≤ i_4 + 1) → (0 < k → c3 = ntF (fun t => dotF f17_11 t t) (tkB (fun t => dotF f17_11 t t) M (k - 1)) M) → ∀ (H : Heap) (locs : List Loc) (ls : Array Slot), va_P (dC, dI) vwCl (rW h cs I L (va_up (va_up A 17 f17_11) 18 f18_12) Q) H → va_D A0 (rW h cs I L (va_up (va_up A 17 f17_11) 18 f18_12) Q) → va_S A0 s.heap H locs → lv_has ls 5 [(0, .ref (h 0)), (1, .int (nI i_4)), (2, .int (tkB (fun t => dotF f17_11 t t) M k)), (3, .int c3), (4, .int (nI k))] → W p l e (headSpec wsX10_order ({ frames := 2, cells := 0, slots := 0, locals := 48 })).room s m ([.ref (h 0), .int x] : List Value).toArray below meth c H locs 0 0 (MQ below (va_Qi (fun (r : Int32) (u : RS) => ∃ f17 : Nat → Int32, ∃ f18 : Nat → Int32, ((∃ i : Nat, i < M ∧ x = nI i ∧ laid (A 3) R M f17 f18 ∧ r = ntF (fun t => dotF f17 t t) (tkB (fun t => dotF f17 t t) M i) M) ∨ (r = -1 ∧ (∀ i : Nat, i < M → x ≠ nI i) ∧ f17 = A 17 ∧ f18 = A 18)) ∧ u = (I, L, (va_up (va_up A 17 f17) 18 f18), Q)) (xB (dC, dI) (tysA cs) A0 (fun u : RS => rW h cs u.1 u.2.1 u.2.2.1 u.2.2.2)) A0) ([.ref (h 0), .int x] : List Value).toArray s 0 0 A0) (F0 m 21 ls []) := by
      intro nf
      induction nf with
      | zero => intro k c3 hm; exact absurd hm (Nat.not_lt_zero _)
      | succ nf ih_21 =>
        intro k c3 hm_21 hk_21 hc_21 H locs ls hP hD hS hl
        refine lv_iload hx hb dX10_order_21 (lv_at hl 4 rfl) ?_
        refine lv_iload_n hx hb dX10_order_23 rfl (lv_at hl 1 rfl) ?_
        refine xn_gt (tgt := 45) hx hb dX10_order_24 (by decide) (by omega) (by omega) (fun c_24_13 => ?_) (fun c_24_13 => ?_)
        · skip
          refine lv_iload_n hx hb dX10_order_45 rfl (lv_at hl 3 rfl) ?_
          exact xr_i (v := c3) hx hb hr hlocks hK hS dX10_order_46 (I, L, (va_up (va_up A 17 f17_11) 18 f18_12), Q) ⟨f17_11, f18_12, (Or.inl ⟨i_4, hi_5, hx_6, hf_13, by rw [hc_21 (by omega), show k - 1 = i_4 by omega]⟩), rfl⟩ hP hD
        · skip
          refine lv_aload_n hx hb dX10_order_27 rfl (lv_at hl 0 rfl) ?_
          refine lv_iload_n hx hb dX10_order_28 rfl (lv_at hl 2 rfl) ?_
          refine xj_i (wc := (rW h cs I L (va_up (va_up A 17 f17_11) 18 f18_12) Q)) (wr := ([] : va_W)) hP hD hS hA [0, 1, 2, 3, 4, 5, 6, 7, 8, 9, 10, 11, 12, 13, 14, 15, 16] [] rfl rfl (by decide +kernel) (by decide +kernel) (va_runV (As := [.int (tkB (fun t => dotF f17_11 t t) M k)]) (rest := []) ⟨hx, hb, hml, hown, hts⟩ (k_X10_nextTaken l dC dI h cs H.size I L (va_up (va_up A 17 f17_11) 18 f18_12) Q (tkB (fun t => dotF f17_11 t t) M k) M hM (by first | assumption | omega | exact hM1) (by first | assumption | omega | exact hM4)) (cwV 1 hts gX10_order_X10_nextTaken rfl rfl rfl (by decide +kernel) ⟨Nat.le_of_ble_eq_true rfl, Nat.le_of_ble_eq_true rfl⟩) (xpV (wc := (rW h cs I L (va_up (va_up A 17 f17_11) 18 f18_12) Q)) hP hD hK hN [0, 1, 2, 3, 4, 5, 6, 7, 8, 9, 10, 11, 12, 13, 14, 15, 16] rfl (by decide) 0 (ci := 10) rfl rfl _) rfl rfl hl.1 rfl (lv_room (Nat.le_of_ble_eq_true rfl)) dX10_order_29 ⟨Nat.zero_le _, Nat.zero_le _⟩) (fun r_16 u_15 H locs hw hP hD hS => ?_)
          obtain ⟨hf_17, rfl⟩ := hw
          have hP : va_P (dC, dI) vwCl (rW h cs I L (va_up (va_up A 17 f17_11) 18 f18_12) Q) H := hP
          have hD : va_D A0 (rW h cs I L (va_up (va_up A 17 f17_11) 18 f18_12) Q) := hD
          obtain rfl := hf_17
          refine lv_istore_n (lv' := [(3, .int (ntF (fun t => dotF f17_11 t t) (tkB (fun t => dotF f17_11 t t) M k) M)), (0, .ref (h 0)), (1, .int (nI i_4)), (2, .int (tkB (fun t => dotF f17_11 t t) M k)), (4, .int (nI k))]) hx hb dX10_order_32 rfl hl (by decide) rfl (fun ls hl => ?_)
          refine lv_iload_n hx hb dX10_order_33 rfl (lv_at hl 3 rfl) ?_
          refine lv_iconst (v := nI 1) hx hb dX10_order_34 (by decide) ?_
          refine lv_iload_n hx hb dX10_order_35 rfl (lv_at hl 0 rfl) ?_
          refine lv_ishl hx hb dX10_order_36 ?_
          refine lv_ior hx hb dX10_order_37 ?_
          refine lv_istore_n (lv' := [(2, .int ((tkB (fun t => dotF f17_11 t t) M k) ||| ((nI 1) <<< ((ntF (fun t => dotF f17_11 t t) (tkB (fun t => dotF f17_11 t t) M k) M) &&& 31)))), (3, .int (ntF (fun t => dotF f17_11 t t) (tkB (fun t => dotF f17_11 t t) M k) M)), (0, .ref (h 0)), (1, .int (nI i_4)), (4, .int (nI k))]) hx hb dX10_order_38 rfl hl (by decide) rfl (fun ls hl => ?_)
          refine lv_iinc (v := nI (k + 1)) (lv' := [(4, .int (nI (k + 1))), (2, .int ((tkB (fun t => dotF f17_11 t t) M k) ||| ((nI 1) <<< ((ntF (fun t => dotF f17_11 t t) (tkB (fun t => dotF f17_11 t t) M k) M) &&& 31)))), (3, .int (ntF (fun t => dotF f17_11 t t) (tkB (fun t => dotF f17_11 t t) M k) M)), (0, .ref (h 0)), (1, .int (nI i_4))]) hx hb dX10_order_39 hl (k := 4) rfl (nI_1 _) (by decide) rfl (fun ls hl => ?_)
          refine lv_goto (tgt := 21) hx hb dX10_order_42 (by decide) ?_
          exact ih_21 (k + 1) (ntF (fun t => dotF f17_11 t t) (tkB (fun t => dotF f17_11 t t) M k) M) (by omega) (by first | assumption | omega) (by first | (intro h9; exact absurd h9 (Nat.lt_irrefl 0)) | (intro _; rfl)) _ _ _ hP hD hS (lv_sub hl [3, 4, 1, 2, 0] rfl)
    exact cut_21 _ 0 (-1) (Nat.lt_succ_self _) (by first | assumption | omega) (by first | (intro h9; exact absurd h9 (Nat.lt_irrefl 0)) | (intro _; rfl)) _ _ _ hP hD hS (lv_sub hl [3, 4, 2, 1, 0] rfl)
  · skip
    refine xs_neF (tgt := 10) hx hb dX10_order_5 (by decide) (by decide) ?_
    refine lv_iconst (v := (-1)) hx hb dX10_order_8 (by decide) ?_
    exact xr_i (v := (-1)) hx hb hr hlocks hK hS dX10_order_9 (I, L, (va_up (va_up A 17 (A 17)) 18 (A 18)), Q) ⟨(A 17), (A 18), (Or.inr ⟨rfl, hn_7, rfl, rfl⟩), rfl⟩ hP hD
