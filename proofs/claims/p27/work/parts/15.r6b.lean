set_option maxRecDepth 20000 in
theorem ggX10_nextTaken_X10_dot : GoodIn wsX10_nextTaken wsX10_dot := goodIn_r _ [6, 7, 8, 9, 10, 11, 12, 13, 14, 15, 16, 17, 18, 19, 20, 21, 22, 23, 24, 25, 26, 27, 28, 29, 30, 31, 32, 33, 34, 35] rfl (by decide +kernel)
set_option maxRecDepth 20000 in
theorem gX10_nextTaken_X10_dot : GoodIn wsX10_nextTaken (wsV RX10 175 RX10 yX10_dot wsX10_dot) := goodIn_app (goodIn_of _ (by decide +kernel)) ggX10_nextTaken_X10_dot
theorem bdX10_nextTaken_0 : (decode cX10_nextTaken 0 = .ok (.iconst (-1), 1)) ∧ (decode cX10_nextTaken 1 = .ok (.istore_n 2, 1)) ∧ (decode cX10_nextTaken 2 = .ok (.iconst 0, 1)) ∧ (decode cX10_nextTaken 3 = .ok (.istore_n 3, 1)) ∧ (decode cX10_nextTaken 4 = .ok (.iload_n 3, 1)) ∧ (decode cX10_nextTaken 5 = .ok (.aload_n 0, 1)) ∧ (decode cX10_nextTaken 6 = .ok (.getfield 13, 3)) ∧ (decode cX10_nextTaken 9 = .ok (.if_icmp .ge 54, 3)) ∧ (decode cX10_nextTaken 12 = .ok (.iload_n 1, 1)) ∧ (decode cX10_nextTaken 13 = .ok (.iload_n 3, 1)) ∧ (decode cX10_nextTaken 14 = .ok (.ishr, 1)) ∧ (decode cX10_nextTaken 15 = .ok (.iconst 1, 1)) ∧ (decode cX10_nextTaken 16 = .ok (.iand, 1)) ∧ (decode cX10_nextTaken 17 = .ok (.ifCond .ne 7, 3)) ∧ (decode cX10_nextTaken 20 = .ok (.iconst 1, 1)) ∧ (decode cX10_nextTaken 21 = .ok (.goto 4, 3)) := by decide +kernel
theorem dX10_nextTaken_0 : decode cX10_nextTaken 0 = .ok (.iconst (-1), 1) := bdX10_nextTaken_0.1
theorem dX10_nextTaken_1 : decode cX10_nextTaken 1 = .ok (.istore_n 2, 1) := bdX10_nextTaken_0.2.1
theorem dX10_nextTaken_2 : decode cX10_nextTaken 2 = .ok (.iconst 0, 1) := bdX10_nextTaken_0.2.2.1
theorem dX10_nextTaken_3 : decode cX10_nextTaken 3 = .ok (.istore_n 3, 1) := bdX10_nextTaken_0.2.2.2.1
theorem dX10_nextTaken_4 : decode cX10_nextTaken 4 = .ok (.iload_n 3, 1) := bdX10_nextTaken_0.2.2.2.2.1
theorem dX10_nextTaken_5 : decode cX10_nextTaken 5 = .ok (.aload_n 0, 1) := bdX10_nextTaken_0.2.2.2.2.2.1
theorem dX10_nextTaken_6 : decode cX10_nextTaken 6 = .ok (.getfield 13, 3) := bdX10_nextTaken_0.2.2.2.2.2.2.1
theorem dX10_nextTaken_9 : decode cX10_nextTaken 9 = .ok (.if_icmp .ge 54, 3) := bdX10_nextTaken_0.2.2.2.2.2.2.2.1
theorem dX10_nextTaken_12 : decode cX10_nextTaken 12 = .ok (.iload_n 1, 1) := bdX10_nextTaken_0.2.2.2.2.2.2.2.2.1
theorem dX10_nextTaken_13 : decode cX10_nextTaken 13 = .ok (.iload_n 3, 1) := bdX10_nextTaken_0.2.2.2.2.2.2.2.2.2.1
theorem dX10_nextTaken_14 : decode cX10_nextTaken 14 = .ok (.ishr, 1) := bdX10_nextTaken_0.2.2.2.2.2.2.2.2.2.2.1
theorem dX10_nextTaken_15 : decode cX10_nextTaken 15 = .ok (.iconst 1, 1) := bdX10_nextTaken_0.2.2.2.2.2.2.2.2.2.2.2.1
theorem dX10_nextTaken_16 : decode cX10_nextTaken 16 = .ok (.iand, 1) := bdX10_nextTaken_0.2.2.2.2.2.2.2.2.2.2.2.2.1
theorem dX10_nextTaken_17 : decode cX10_nextTaken 17 = .ok (.ifCond .ne 7, 3) := bdX10_nextTaken_0.2.2.2.2.2.2.2.2.2.2.2.2.2.1
theorem dX10_nextTaken_20 : decode cX10_nextTaken 20 = .ok (.iconst 1, 1) := bdX10_nextTaken_0.2.2.2.2.2.2.2.2.2.2.2.2.2.2.1
theorem dX10_nextTaken_21 : decode cX10_nextTaken 21 = .ok (.goto 4, 3) := bdX10_nextTaken_0.2.2.2.2.2.2.2.2.2.2.2.2.2.2.2
theorem bdX10_nextTaken_24 : (decode cX10_nextTaken 24 = .ok (.iconst 0, 1)) ∧ (decode cX10_nextTaken 25 = .ok (.istore 4, 2)) ∧ (decode cX10_nextTaken 27 = .ok (.iload 4, 2)) ∧ (decode cX10_nextTaken 29 = .ok (.ifCond .eq 26, 3)) ∧ (decode cX10_nextTaken 32 = .ok (.iload_n 2, 1)) ∧ (decode cX10_nextTaken 33 = .ok (.ifCond .lt 18, 3)) ∧ (decode cX10_nextTaken 36 = .ok (.aload_n 0, 1)) ∧ (decode cX10_nextTaken 37 = .ok (.iload_n 3, 1)) ∧ (decode cX10_nextTaken 38 = .ok (.iload_n 3, 1)) ∧ (decode cX10_nextTaken 39 = .ok (.invokevirtual 175, 3)) ∧ (decode cX10_nextTaken 42 = .ok (.aload_n 0, 1)) ∧ (decode cX10_nextTaken 43 = .ok (.iload_n 2, 1)) ∧ (decode cX10_nextTaken 44 = .ok (.iload_n 2, 1)) ∧ (decode cX10_nextTaken 45 = .ok (.invokevirtual 175, 3)) ∧ (decode cX10_nextTaken 48 = .ok (.if_icmp .le 7, 3)) ∧ (decode cX10_nextTaken 51 = .ok (.iload_n 3, 1)) := by decide +kernel
theorem dX10_nextTaken_24 : decode cX10_nextTaken 24 = .ok (.iconst 0, 1) := bdX10_nextTaken_24.1
theorem dX10_nextTaken_25 : decode cX10_nextTaken 25 = .ok (.istore 4, 2) := bdX10_nextTaken_24.2.1
theorem dX10_nextTaken_27 : decode cX10_nextTaken 27 = .ok (.iload 4, 2) := bdX10_nextTaken_24.2.2.1
theorem dX10_nextTaken_29 : decode cX10_nextTaken 29 = .ok (.ifCond .eq 26, 3) := bdX10_nextTaken_24.2.2.2.1
theorem dX10_nextTaken_32 : decode cX10_nextTaken 32 = .ok (.iload_n 2, 1) := bdX10_nextTaken_24.2.2.2.2.1
theorem dX10_nextTaken_33 : decode cX10_nextTaken 33 = .ok (.ifCond .lt 18, 3) := bdX10_nextTaken_24.2.2.2.2.2.1
theorem dX10_nextTaken_36 : decode cX10_nextTaken 36 = .ok (.aload_n 0, 1) := bdX10_nextTaken_24.2.2.2.2.2.2.1
theorem dX10_nextTaken_37 : decode cX10_nextTaken 37 = .ok (.iload_n 3, 1) := bdX10_nextTaken_24.2.2.2.2.2.2.2.1
theorem dX10_nextTaken_38 : decode cX10_nextTaken 38 = .ok (.iload_n 3, 1) := bdX10_nextTaken_24.2.2.2.2.2.2.2.2.1
theorem dX10_nextTaken_39 : decode cX10_nextTaken 39 = .ok (.invokevirtual 175, 3) := bdX10_nextTaken_24.2.2.2.2.2.2.2.2.2.1
theorem dX10_nextTaken_42 : decode cX10_nextTaken 42 = .ok (.aload_n 0, 1) := bdX10_nextTaken_24.2.2.2.2.2.2.2.2.2.2.1
theorem dX10_nextTaken_43 : decode cX10_nextTaken 43 = .ok (.iload_n 2, 1) := bdX10_nextTaken_24.2.2.2.2.2.2.2.2.2.2.2.1
theorem dX10_nextTaken_44 : decode cX10_nextTaken 44 = .ok (.iload_n 2, 1) := bdX10_nextTaken_24.2.2.2.2.2.2.2.2.2.2.2.2.1
theorem dX10_nextTaken_45 : decode cX10_nextTaken 45 = .ok (.invokevirtual 175, 3) := bdX10_nextTaken_24.2.2.2.2.2.2.2.2.2.2.2.2.2.1
theorem dX10_nextTaken_48 : decode cX10_nextTaken 48 = .ok (.if_icmp .le 7, 3) := bdX10_nextTaken_24.2.2.2.2.2.2.2.2.2.2.2.2.2.2.1
theorem dX10_nextTaken_51 : decode cX10_nextTaken 51 = .ok (.iload_n 3, 1) := bdX10_nextTaken_24.2.2.2.2.2.2.2.2.2.2.2.2.2.2.2
theorem bdX10_nextTaken_52 : (decode cX10_nextTaken 52 = .ok (.goto 4, 3)) ∧ (decode cX10_nextTaken 55 = .ok (.iload_n 2, 1)) ∧ (decode cX10_nextTaken 56 = .ok (.istore_n 2, 1)) ∧ (decode cX10_nextTaken 57 = .ok (.iinc 3 1, 3)) ∧ (decode cX10_nextTaken 60 = .ok (.goto (-56), 3)) ∧ (decode cX10_nextTaken 63 = .ok (.iload_n 2, 1)) ∧ (decode cX10_nextTaken 64 = .ok (.ireturn, 1)) := by decide +kernel
theorem dX10_nextTaken_52 : decode cX10_nextTaken 52 = .ok (.goto 4, 3) := bdX10_nextTaken_52.1
theorem dX10_nextTaken_55 : decode cX10_nextTaken 55 = .ok (.iload_n 2, 1) := bdX10_nextTaken_52.2.1
theorem dX10_nextTaken_56 : decode cX10_nextTaken 56 = .ok (.istore_n 2, 1) := bdX10_nextTaken_52.2.2.1
theorem dX10_nextTaken_57 : decode cX10_nextTaken 57 = .ok (.iinc 3 1, 3) := bdX10_nextTaken_52.2.2.2.1
theorem dX10_nextTaken_60 : decode cX10_nextTaken 60 = .ok (.goto (-56), 3) := bdX10_nextTaken_52.2.2.2.2.1
theorem dX10_nextTaken_63 : decode cX10_nextTaken 63 = .ok (.iload_n 2, 1) := bdX10_nextTaken_52.2.2.2.2.2.1
theorem dX10_nextTaken_64 : decode cX10_nextTaken 64 = .ok (.ireturn, 1) := bdX10_nextTaken_52.2.2.2.2.2.2
set_option maxHeartbeats 4000000 in
set_option maxRecDepth 100000 in
theorem k_X10_nextTaken (l : Launch) (dC : Nat → ClassId) (dI : Nat → Nat → Nat) (h : Nat → Nat) (cs : Nat → ClassId) (sz : Nat) (I : Nat → Int32) (L : Nat → Int64) (A : Nat → Nat → Int32) (Q : Nat → Nat → Int64) (x : Int32) (M : Nat) (hM : I 1 = nI M) (hM1 : 1 ≤ M) (hM4 : M ≤ 4) : Met l yX10_nextTaken wsX10_nextTaken ({ frames := 1, cells := 0, slots := 0, locals := 24 }) (va_Pc [.ref (h 0), .int x] (xPre (dC, dI) (rW h cs I L A Q) (tysA cs) sz)) (va_Qi (fun (r : Int32) (u : RS) => (r = ntF (fun t => dotF (A 17) t t) x M) ∧ u = (I, L, A, Q)) (xB (dC, dI) (tysA cs) (va_A (rW h cs I L A Q) sz) (fun u : RS => rW h cs u.1 u.2.1 u.2.2.1 u.2.2.2)) (va_A (rW h cs I L A Q) sz)) 0 0 (va_A (rW h cs I L A Q) sz) := by
  refine Met.ofW (cc := cX10_nextTaken) (maxL := 5) (ret := (some .int)) (by decide) rfl ?_
  intro p e s m args below meth c s₁ B hml hv
  obtain ⟨rfl, hsz, hP, hK, hD0, hN⟩ := hv
  have hx := B.exec
  have hb := B.bytes
  have hr := B.returns
  have hts := atoms_spec (ws := wsX10_nextTaken) B.pre
  have hown : s.vm.findClass RX10 = some m.cls := findClass_of_methodNamed B.named
  have hlocks := B.notSynchronized
  subst hsz
  have hD := hD0.self (sz := s.heap.size)
  generalize hAe : va_A (rW h cs I L A Q) s.heap.size = A0 at hD ⊢
  have hA : ∀ q : Nat, s.heap.size ≤ q → A0 q := fun q h => by rw [← hAe]; exact Or.inr h
  have hl := lv_entry ([.ref (h 0), .int x]) (n := 5) (Nat.le_of_ble_eq_true rfl)
  rw [lg_entry_eq]
  generalize (lg_sl ([.ref (h 0), .int x]) ++ List.replicate (5 - (lg_sl ([.ref (h 0), .int x])).length) Slot.unset).toArray = ls at hl ⊢
  have hl : lv_has ls 5 [(0, .ref (h 0)), (1, .int x)] := hl
  generalize hH : s.heap = H at hP ⊢
  have hS : va_S A0 s.heap H [] := by rw [← hH]; exact va_S.rf
  have hinX10 : ∀ w ∈ wsX100, w ∈ wsX10_nextTaken := by decide +kernel
  refine lv_iconst (v := (-1)) hx hb dX10_nextTaken_0 (by decide) ?_
  refine lv_istore_n (lv' := [(2, .int (-1)), (0, .ref (h 0)), (1, .int x)]) hx hb dX10_nextTaken_1 rfl hl (by decide) rfl (fun ls hl => ?_)
  refine lv_iconst (v := nI 0) hx hb dX10_nextTaken_2 (by decide) ?_
  refine lv_istore_n (lv' := [(3, .int (nI 0)), (2, .int (-1)), (0, .ref (h 0)), (1, .int x)]) hx hb dX10_nextTaken_3 rfl hl (by decide) rfl (fun ls hl => ?_)
  have cut_4 : ∀ (nf : Nat) (k : Nat) (b2 : Int32), (M - k) < nf → (k ≤ M) → (b2 = ntF (fun t => dotF (A 17) t t) x k) → (b2 = -1 ∨ ∃ q : Nat, q < k ∧ b2 = nI q) → ∀ (H : Heap) (locs : List Loc) (ls : Array Slot), va_P (dC, dI) vwCl (rW h cs I L A Q) H → va_D A0 (rW h cs I L A Q) → va_S A0 s.heap H locs → lv_has ls 5 [(0, .ref (h 0)), (1, .int x), (2, .int b2), (3, .int (nI k))] → W p l e (headSpec wsX10_nextTaken ({ frames := 1, cells := 0, slots := 0, locals := 24 })).room s m ([.ref (h 0), .int x] : List Value).toArray below meth c H locs 0 0 (MQ below (va_Qi (fun (r : Int32) (u : RS) => (r = ntF (fun t => dotF (A 17) t t) x M) ∧ u = (I, L, A, Q)) (xB (dC, dI) (tysA cs) A0 (fun u : RS => rW h cs u.1 u.2.1 u.2.2.1 u.2.2.2)) A0) ([.ref (h 0), .int x] : List Value).toArray s 0 0 A0) (F0 m 4 ls []) := by
    intro nf
    induction nf with
    | zero => intro k b2 hm; exact absurd hm (Nat.not_lt_zero _)
    | succ nf ih_4 =>
      intro k b2 hm_4 hk_4 hb_4 hq_4 H locs ls hP hD hS hl
      refine lv_iload_n hx hb dX10_nextTaken_4 rfl (lv_at hl 3 rfl) ?_
      refine lv_aload_n hx hb dX10_nextTaken_5 rfl (lv_at hl 0 rfl) ?_
      refine va_get (D := (dC, dI)) (ci := 10) (v := .int (I 1)) (C := RX10) (T := TX10) (N := 28) hx hb hts hinX10 hown hK hP 0 rfl rfl 1 (by decide) (hts (.fieldLink RX10 13 "MixedWordsModel" "columns" "I") (by decide +kernel)) (fun _ h9 => h9) rfl dX10_nextTaken_6 ?_
      refine xt_i (y := nI M) (hM) ?_
      refine xn_ge (tgt := 63) hx hb dX10_nextTaken_9 (by decide) (by omega) (by omega) (fun c_9_0 => ?_) (fun c_9_0 => ?_)
      · skip
        refine lv_iload_n hx hb dX10_nextTaken_63 rfl (lv_at hl 2 rfl) ?_
        exact xr_i (v := b2) hx hb hr hlocks hK hS dX10_nextTaken_64 (I, L, A, Q) ⟨(by rw [hb_4, show M = k by omega]), rfl⟩ hP hD
      · skip
        refine lv_iload_n hx hb dX10_nextTaken_12 rfl (lv_at hl 1 rfl) ?_
        refine lv_iload_n hx hb dX10_nextTaken_13 rfl (lv_at hl 3 rfl) ?_
        refine lv_ishr hx hb dX10_nextTaken_14 ?_
        refine lv_iconst (v := nI 1) hx hb dX10_nextTaken_15 (by decide) ?_
        refine lv_iand hx hb dX10_nextTaken_16 ?_
        refine lv_if_ne (tgt := 24) hx hb dX10_nextTaken_17 (by decide) (fun c_17_1 => ?_) (fun c_17_1 => ?_)
        · skip
          have hbit : ¬ bt1 x k = nI 0 := c_17_1
          refine lv_iconst (v := nI 0) hx hb dX10_nextTaken_24 (by decide) ?_
          refine lv_istore (lv' := [(4, .int (nI 0)), (0, .ref (h 0)), (1, .int x), (2, .int b2), (3, .int (nI k))]) hx hb dX10_nextTaken_25 hl (by decide) rfl (fun ls hl => ?_)
          refine lv_iload hx hb dX10_nextTaken_27 (lv_at hl 0 rfl) ?_
          refine xs_eqT (tgt := 55) hx hb dX10_nextTaken_29 (by decide) (by decide) ?_
          refine lv_iload_n hx hb dX10_nextTaken_55 rfl (lv_at hl 3 rfl) ?_
          refine lv_istore_n (lv' := [(2, .int b2), (4, .int (nI 0)), (0, .ref (h 0)), (1, .int x), (3, .int (nI k))]) hx hb dX10_nextTaken_56 rfl hl (by decide) rfl (fun ls hl => ?_)
          refine lv_iinc (v := nI (k + 1)) (lv' := [(3, .int (nI (k + 1))), (2, .int b2), (4, .int (nI 0)), (0, .ref (h 0)), (1, .int x)]) hx hb dX10_nextTaken_57 hl (k := 4) rfl (nI_1 _) (by decide) rfl (fun ls hl => ?_)
          refine lv_goto (tgt := 4) hx hb dX10_nextTaken_60 (by decide) ?_
          exact ih_4 (k + 1) b2 (by omega) (by first | assumption | omega) (by first | exact nt_a hbit hb_4 (by assumption) | exact nt_b (d := (fun t => dotF (A 17) t t)) (by omega) hbit hb_4 hbq (by assumption) | exact nt_c (d := (fun t => dotF (A 17) t t)) (by omega) hb_4 hbq (by assumption) | exact nt_d hbit hb_4 | rfl) (by first | exact Or.inl rfl | exact Or.inr ⟨k, by omega, rfl⟩ | exact Or.inr ⟨qb, by omega, rfl⟩ | exact hq_4.elim Or.inl (fun ⟨q, h1, h2⟩ => Or.inr ⟨q, by omega, h2⟩)) _ _ _ hP hD hS (lv_sub hl [3, 4, 1, 0] rfl)
        · skip
          have hbit : bt1 x k = nI 0 := c_17_1
          refine lv_iconst (v := nI 1) hx hb dX10_nextTaken_20 (by decide) ?_
          refine lv_goto (tgt := 25) hx hb dX10_nextTaken_21 (by decide) ?_
          refine lv_istore (lv' := [(4, .int (nI 1)), (0, .ref (h 0)), (1, .int x), (2, .int b2), (3, .int (nI k))]) hx hb dX10_nextTaken_25 hl (by decide) rfl (fun ls hl => ?_)
          refine lv_iload hx hb dX10_nextTaken_27 (lv_at hl 0 rfl) ?_
          refine xs_eqF (tgt := 55) hx hb dX10_nextTaken_29 (by decide) (by decide) ?_
          refine lv_iload_n hx hb dX10_nextTaken_32 rfl (lv_at hl 3 rfl) ?_
          refine lv_if_lt (tgt := 51) hx hb dX10_nextTaken_33 (by decide) (fun c_33_4 => ?_) (fun c_33_4 => ?_)
          · skip
            refine lv_iload_n hx hb dX10_nextTaken_51 rfl (lv_at hl 4 rfl) ?_
            refine lv_goto (tgt := 56) hx hb dX10_nextTaken_52 (by decide) ?_
            refine lv_istore_n (lv' := [(2, .int (nI k)), (4, .int (nI 1)), (0, .ref (h 0)), (1, .int x), (3, .int (nI k))]) hx hb dX10_nextTaken_56 rfl hl (by decide) rfl (fun ls hl => ?_)
            refine lv_iinc (v := nI (k + 1)) (lv' := [(3, .int (nI (k + 1))), (2, .int (nI k)), (4, .int (nI 1)), (0, .ref (h 0)), (1, .int x)]) hx hb dX10_nextTaken_57 hl (k := 4) rfl (nI_1 _) (by decide) rfl (fun ls hl => ?_)
            refine lv_goto (tgt := 4) hx hb dX10_nextTaken_60 (by decide) ?_
            exact ih_4 (k + 1) (nI k) (by omega) (by first | assumption | omega) (by first | exact nt_a hbit hb_4 (by assumption) | exact nt_b (d := (fun t => dotF (A 17) t t)) (by omega) hbit hb_4 hbq (by assumption) | exact nt_c (d := (fun t => dotF (A 17) t t)) (by omega) hb_4 hbq (by assumption) | exact nt_d hbit hb_4 | rfl) (by first | exact Or.inl rfl | exact Or.inr ⟨k, by omega, rfl⟩ | exact Or.inr ⟨qb, by omega, rfl⟩ | exact hq_4.elim Or.inl (fun ⟨q, h1, h2⟩ => Or.inr ⟨q, by omega, h2⟩)) _ _ _ hP hD hS (lv_sub hl [3, 4, 1, 0] rfl)
          · skip
            obtain ⟨qb, hqb, hbq⟩ : ∃ q : Nat, q < k ∧ b2 = nI q := hq_4.elim (fun g => absurd (by rw [g]; decide) c_33_4) id
            rw [hbq] at hl
            refine lv_aload_n hx hb dX10_nextTaken_36 rfl (lv_at hl 1 rfl) ?_
            refine lv_iload_n hx hb dX10_nextTaken_37 rfl (lv_at hl 4 rfl) ?_
            refine lv_iload_n hx hb dX10_nextTaken_38 rfl (lv_at hl 4 rfl) ?_
            refine xj_i (wc := (rW h cs I L A Q)) (wr := ([] : va_W)) hP hD hS hA [0, 1, 2, 3, 4, 5, 6, 7, 8, 9, 10, 11, 12, 13, 14, 15, 16] [] rfl rfl (by decide +kernel) (by decide +kernel) (va_runV (As := [.int (nI k), .int (nI k)]) (rest := []) ⟨hx, hb, hml, hown, hts⟩ (k_X10_dot l dC dI h cs H.size I L A Q k k (by first | assumption | omega) (by first | assumption | omega)) (cwV 2 hts gX10_nextTaken_X10_dot rfl rfl rfl (by decide +kernel) ⟨Nat.le_of_ble_eq_true rfl, Nat.le_of_ble_eq_true rfl⟩) (xpV (wc := (rW h cs I L A Q)) hP hD hK hN [0, 1, 2, 3, 4, 5, 6, 7, 8, 9, 10, 11, 12, 13, 14, 15, 16] rfl (by decide) 0 (ci := 10) rfl rfl _) rfl rfl hl.1 rfl (lv_room (Nat.le_of_ble_eq_true rfl)) dX10_nextTaken_39 ⟨Nat.zero_le _, Nat.zero_le _⟩) (fun r_7 u_6 H locs hw hP hD hS => ?_)
            obtain ⟨hf_8, rfl⟩ := hw
            have hP : va_P (dC, dI) vwCl (rW h cs I L A Q) H := hP
            have hD : va_D A0 (rW h cs I L A Q) := hD
            obtain rfl := hf_8
            refine lv_aload_n hx hb dX10_nextTaken_42 rfl (lv_at hl 1 rfl) ?_
            refine lv_iload_n hx hb dX10_nextTaken_43 rfl (lv_at hl 3 rfl) ?_
            refine lv_iload_n hx hb dX10_nextTaken_44 rfl (lv_at hl 3 rfl) ?_
            refine xj_i (wc := (rW h cs I L A Q)) (wr := ([] : va_W)) hP hD hS hA [0, 1, 2, 3, 4, 5, 6, 7, 8, 9, 10, 11, 12, 13, 14, 15, 16] [] rfl rfl (by decide +kernel) (by decide +kernel) (va_runV (As := [.int (nI qb), .int (nI qb)]) (rest := [.int (dotF (A 17) k k)]) ⟨hx, hb, hml, hown, hts⟩ (k_X10_dot l dC dI h cs H.size I L A Q qb qb (by first | assumption | omega) (by first | assumption | omega)) (cwV 2 hts gX10_nextTaken_X10_dot rfl rfl rfl (by decide +kernel) ⟨Nat.le_of_ble_eq_true rfl, Nat.le_of_ble_eq_true rfl⟩) (xpV (wc := (rW h cs I L A Q)) hP hD hK hN [0, 1, 2, 3, 4, 5, 6, 7, 8, 9, 10, 11, 12, 13, 14, 15, 16] rfl (by decide) 0 (ci := 10) rfl rfl _) rfl rfl hl.1 rfl (lv_room (Nat.le_of_ble_eq_true rfl)) dX10_nextTaken_45 ⟨Nat.zero_le _, Nat.zero_le _⟩) (fun r_10 u_9 H locs hw hP hD hS => ?_)
            obtain ⟨hf_11, rfl⟩ := hw
            have hP : va_P (dC, dI) vwCl (rW h cs I L A Q) H := hP
            have hD : va_D A0 (rW h cs I L A Q) := hD
            obtain rfl := hf_11
            refine lv_icmp_le (tgt := 55) hx hb dX10_nextTaken_48 (by decide) (fun c_48_11 => ?_) (fun c_48_11 => ?_)
            · skip
              refine lv_iload_n hx hb dX10_nextTaken_55 rfl (lv_at hl 3 rfl) ?_
              refine lv_istore_n (lv' := [(2, .int (nI qb)), (4, .int (nI 1)), (0, .ref (h 0)), (1, .int x), (3, .int (nI k))]) hx hb dX10_nextTaken_56 rfl hl (by decide) rfl (fun ls hl => ?_)
              refine lv_iinc (v := nI (k + 1)) (lv' := [(3, .int (nI (k + 1))), (2, .int (nI qb)), (4, .int (nI 1)), (0, .ref (h 0)), (1, .int x)]) hx hb dX10_nextTaken_57 hl (k := 4) rfl (nI_1 _) (by decide) rfl (fun ls hl => ?_)
              refine lv_goto (tgt := 4) hx hb dX10_nextTaken_60 (by decide) ?_
              exact ih_4 (k + 1) (nI qb) (by omega) (by first | assumption | omega) (by first | exact nt_a hbit hb_4 (by assumption) | exact nt_b (d := (fun t => dotF (A 17) t t)) (by omega) hbit hb_4 hbq (by assumption) | exact nt_c (d := (fun t => dotF (A 17) t t)) (by omega) hb_4 hbq (by assumption) | exact nt_d hbit hb_4 | rfl) (by first | exact Or.inl rfl | exact Or.inr ⟨k, by omega, rfl⟩ | exact Or.inr ⟨qb, by omega, rfl⟩ | exact hq_4.elim Or.inl (fun ⟨q, h1, h2⟩ => Or.inr ⟨q, by omega, h2⟩)) _ _ _ hP hD hS (lv_sub hl [3, 4, 1, 0] rfl)
            · skip
              refine lv_iload_n hx hb dX10_nextTaken_51 rfl (lv_at hl 4 rfl) ?_
              refine lv_goto (tgt := 56) hx hb dX10_nextTaken_52 (by decide) ?_
              refine lv_istore_n (lv' := [(2, .int (nI k)), (4, .int (nI 1)), (0, .ref (h 0)), (1, .int x), (3, .int (nI k))]) hx hb dX10_nextTaken_56 rfl hl (by decide) rfl (fun ls hl => ?_)
              refine lv_iinc (v := nI (k + 1)) (lv' := [(3, .int (nI (k + 1))), (2, .int (nI k)), (4, .int (nI 1)), (0, .ref (h 0)), (1, .int x)]) hx hb dX10_nextTaken_57 hl (k := 4) rfl (nI_1 _) (by decide) rfl (fun ls hl => ?_)
              refine lv_goto (tgt := 4) hx hb dX10_nextTaken_60 (by decide) ?_
              exact ih_4 (k + 1) (nI k) (by omega) (by first | assumption | omega) (by first | exact nt_a hbit hb_4 (by assumption) | exact nt_b (d := (fun t => dotF (A 17) t t)) (by omega) hbit hb_4 hbq (by assumption) | exact nt_c (d := (fun t => dotF (A 17) t t)) (by omega) hb_4 hbq (by assumption) | exact nt_d hbit hb_4 | rfl) (by first | exact Or.inl rfl | exact Or.inr ⟨k, by omega, rfl⟩ | exact Or.inr ⟨qb, by omega, rfl⟩ | exact hq_4.elim Or.inl (fun ⟨q, h1, h2⟩ => Or.inr ⟨q, by omega, h2⟩)) _ _ _ hP hD hS (lv_sub hl [3, 4, 1, 0] rfl)
  exact cut_4 _ 0 (-1) (Nat.lt_succ_self _) (by first | assumption | omega) (by first | exact nt_a hbit hb_4 (by assumption) | exact nt_b (d := (fun t => dotF (A 17) t t)) (by omega) hbit hb_4 hbq (by assumption) | exact nt_c (d := (fun t => dotF (A 17) t t)) (by omega) hb_4 hbq (by assumption) | exact nt_d hbit hb_4 | rfl) (by first | exact Or.inl rfl | exact Or.inr ⟨k, by omega, rfl⟩ | exact Or.inr ⟨qb, by omega, rfl⟩ | exact hq_4.elim Or.inl (fun ⟨q, h1, h2⟩ => Or.inr ⟨q, by omega, h2⟩)) _ _ _ hP hD hS (lv_sub hl [2, 3, 1, 0] rfl)
