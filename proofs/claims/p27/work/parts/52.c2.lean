
theorem le0 {b : Nat} (hb : b < 2147483648) (h : nI b ≤ 0) : b = 0 := by
  rcases Nat.eq_zero_or_pos b with e | e
  · exact e
  · exact absurd h (nI_nle e hb)
theorem nle0 {b : Nat} (h : ¬ nI b ≤ 0) : 0 < b := by
  rcases Nat.eq_zero_or_pos b with e | e
  · subst e
    exact absurd (by decide) h
  · exact e
theorem bdX0_canGoBack_0 : (decode cX0_canGoBack 0 = .ok (.aload_n 0, 1)) ∧ (decode cX0_canGoBack 1 = .ok (.getfield 26, 3)) ∧ (decode cX0_canGoBack 4 = .ok (.ifCond .le 7, 3)) ∧ (decode cX0_canGoBack 7 = .ok (.iconst 1, 1)) ∧ (decode cX0_canGoBack 8 = .ok (.goto 4, 3)) ∧ (decode cX0_canGoBack 11 = .ok (.iconst 0, 1)) ∧ (decode cX0_canGoBack 12 = .ok (.ireturn, 1)) := by decide +kernel
theorem dX0_canGoBack_0 : decode cX0_canGoBack 0 = .ok (.aload_n 0, 1) := bdX0_canGoBack_0.1
theorem dX0_canGoBack_1 : decode cX0_canGoBack 1 = .ok (.getfield 26, 3) := bdX0_canGoBack_0.2.1
theorem dX0_canGoBack_4 : decode cX0_canGoBack 4 = .ok (.ifCond .le 7, 3) := bdX0_canGoBack_0.2.2.1
theorem dX0_canGoBack_7 : decode cX0_canGoBack 7 = .ok (.iconst 1, 1) := bdX0_canGoBack_0.2.2.2.1
theorem dX0_canGoBack_8 : decode cX0_canGoBack 8 = .ok (.goto 4, 3) := bdX0_canGoBack_0.2.2.2.2.1
theorem dX0_canGoBack_11 : decode cX0_canGoBack 11 = .ok (.iconst 0, 1) := bdX0_canGoBack_0.2.2.2.2.2.1
theorem dX0_canGoBack_12 : decode cX0_canGoBack 12 = .ok (.ireturn, 1) := bdX0_canGoBack_0.2.2.2.2.2.2
set_option maxHeartbeats 4000000 in
set_option maxRecDepth 100000 in
theorem k_X0_canGoBack (l : Launch) (dC : Nat → ClassId) (dI : Nat → Nat → Nat) (h : Nat → Nat) (cs : Nat → ClassId) (sz : Nat) (I : Nat → Int32) (L : Nat → Int64) (A : Nat → Nat → Int32) (Q : Nat → Nat → Int64) (G : Nat → Nat → Nat → Int32) (J : Nat → Nat → Nat → Int64) (bk : Nat) (hbk : I 145 = nI bk) (hbk4 : bk ≤ 40) : Met l yX0_canGoBack wsX0_canGoBack ({ frames := 0, cells := 0, slots := 0, locals := 0 }) (va_Pc [.ref (h 102)] (xPre (dC, dI) (wAct0 h cs I L A Q G J) (tysA cs) sz)) (va_Qi (fun (r : Int32) (u : CS) => ((r = nI 1 ∧ 0 < bk) ∨ (r = nI 0 ∧ bk = 0)) ∧ u = (I, L, A, Q, G, J)) (xB (dC, dI) (tysA cs) (va_A (wAct0 h cs I L A Q G J) sz) (fun u : CS => wAct0 h cs u.1 u.2.1 u.2.2.1 u.2.2.2.1 u.2.2.2.2.1 u.2.2.2.2.2)) (va_A (wAct0 h cs I L A Q G J) sz)) 0 0 (va_A (wAct0 h cs I L A Q G J) sz) := by
  refine Met.ofW (cc := cX0_canGoBack) (maxL := 1) (ret := (some .boolean)) (by decide) rfl ?_
  intro p e s m args below meth c s₁ B hml hv
  obtain ⟨rfl, hsz, hP, hK, hD0, hN⟩ := hv
  have hx := B.exec
  have hb := B.bytes
  have hr := B.returns
  have hts := atoms_spec (ws := wsX0_canGoBack) B.pre
  have hown : s.vm.findClass RX0 = some m.cls := findClass_of_methodNamed B.named
  have hlocks := B.notSynchronized
  subst hsz
  have hD := hD0.self (sz := s.heap.size)
  generalize hAe : va_A (wAct0 h cs I L A Q G J) s.heap.size = A0 at hD ⊢
  have hA : ∀ q : Nat, s.heap.size ≤ q → A0 q := fun q h => by rw [← hAe]; exact Or.inr h
  have hl := lv_entry ([.ref (h 102)]) (n := 1) (Nat.le_of_ble_eq_true rfl)
  rw [lg_entry_eq]
  generalize (lg_sl ([.ref (h 102)]) ++ List.replicate (1 - (lg_sl ([.ref (h 102)])).length) Slot.unset).toArray = ls at hl ⊢
  have hl : lv_has ls 1 [(0, .ref (h 102))] := hl
  generalize hH : s.heap = H at hP ⊢
  have hS : va_S A0 s.heap H [] := by rw [← hH]; exact va_S.rf
  have hinX0 : ∀ w ∈ wsX00, w ∈ wsX0_canGoBack := by decide +kernel
  refine lv_aload_n hx hb dX0_canGoBack_0 rfl (lv_at hl 0 rfl) ?_
  refine va_get (D := (dC, dI)) (ci := 0) (v := .int (I 145)) (C := RX0) (T := TX0) (N := 8) hx hb hts hinX0 hown hK hP 0 rfl rfl 6 (by decide) (hts (.fieldLink RX0 26 "MixedWords$Acts" "back" "I") (by decide +kernel)) (fun _ h9 => h9) rfl dX0_canGoBack_1 ?_
  refine xt_i (y := nI bk) (hbk) ?_
  refine lv_if_le (tgt := 11) hx hb dX0_canGoBack_4 (by decide) (fun c_4_0 => ?_) (fun c_4_0 => ?_)
  · skip
    refine lv_iconst (v := nI 0) hx hb dX0_canGoBack_11 (by decide) ?_
    exact xr_z (v := (nI 0)) hx hb hr hlocks hK hS dX0_canGoBack_12 (rfl) (I, L, A, Q, G, J) ⟨(Or.inr ⟨rfl, le0 (by omega) (by assumption)⟩), rfl⟩ hP hD
  · skip
    refine lv_iconst (v := nI 1) hx hb dX0_canGoBack_7 (by decide) ?_
    refine lv_goto (tgt := 12) hx hb dX0_canGoBack_8 (by decide) ?_
    exact xr_z (v := (nI 1)) hx hb hr hlocks hK hS dX0_canGoBack_12 (rfl) (I, L, A, Q, G, J) ⟨(Or.inl ⟨rfl, nle0 (by assumption)⟩), rfl⟩ hP hD
theorem bdX0_canGoOn_0 : (decode cX0_canGoOn 0 = .ok (.aload_n 0, 1)) ∧ (decode cX0_canGoOn 1 = .ok (.getfield 29, 3)) ∧ (decode cX0_canGoOn 4 = .ok (.ifCond .le 7, 3)) ∧ (decode cX0_canGoOn 7 = .ok (.iconst 1, 1)) ∧ (decode cX0_canGoOn 8 = .ok (.goto 4, 3)) ∧ (decode cX0_canGoOn 11 = .ok (.iconst 0, 1)) ∧ (decode cX0_canGoOn 12 = .ok (.ireturn, 1)) := by decide +kernel
theorem dX0_canGoOn_0 : decode cX0_canGoOn 0 = .ok (.aload_n 0, 1) := bdX0_canGoOn_0.1
theorem dX0_canGoOn_1 : decode cX0_canGoOn 1 = .ok (.getfield 29, 3) := bdX0_canGoOn_0.2.1
theorem dX0_canGoOn_4 : decode cX0_canGoOn 4 = .ok (.ifCond .le 7, 3) := bdX0_canGoOn_0.2.2.1
theorem dX0_canGoOn_7 : decode cX0_canGoOn 7 = .ok (.iconst 1, 1) := bdX0_canGoOn_0.2.2.2.1
theorem dX0_canGoOn_8 : decode cX0_canGoOn 8 = .ok (.goto 4, 3) := bdX0_canGoOn_0.2.2.2.2.1
theorem dX0_canGoOn_11 : decode cX0_canGoOn 11 = .ok (.iconst 0, 1) := bdX0_canGoOn_0.2.2.2.2.2.1
theorem dX0_canGoOn_12 : decode cX0_canGoOn 12 = .ok (.ireturn, 1) := bdX0_canGoOn_0.2.2.2.2.2.2
set_option maxHeartbeats 4000000 in
set_option maxRecDepth 100000 in
theorem k_X0_canGoOn (l : Launch) (dC : Nat → ClassId) (dI : Nat → Nat → Nat) (h : Nat → Nat) (cs : Nat → ClassId) (sz : Nat) (I : Nat → Int32) (L : Nat → Int64) (A : Nat → Nat → Int32) (Q : Nat → Nat → Int64) (G : Nat → Nat → Nat → Int32) (J : Nat → Nat → Nat → Int64) (on : Nat) (hon : I 146 = nI on) (hon4 : on ≤ 40) : Met l yX0_canGoOn wsX0_canGoOn ({ frames := 0, cells := 0, slots := 0, locals := 0 }) (va_Pc [.ref (h 102)] (xPre (dC, dI) (wAct0 h cs I L A Q G J) (tysA cs) sz)) (va_Qi (fun (r : Int32) (u : CS) => ((r = nI 1 ∧ 0 < on) ∨ (r = nI 0 ∧ on = 0)) ∧ u = (I, L, A, Q, G, J)) (xB (dC, dI) (tysA cs) (va_A (wAct0 h cs I L A Q G J) sz) (fun u : CS => wAct0 h cs u.1 u.2.1 u.2.2.1 u.2.2.2.1 u.2.2.2.2.1 u.2.2.2.2.2)) (va_A (wAct0 h cs I L A Q G J) sz)) 0 0 (va_A (wAct0 h cs I L A Q G J) sz) := by
  refine Met.ofW (cc := cX0_canGoOn) (maxL := 1) (ret := (some .boolean)) (by decide) rfl ?_
  intro p e s m args below meth c s₁ B hml hv
  obtain ⟨rfl, hsz, hP, hK, hD0, hN⟩ := hv
  have hx := B.exec
  have hb := B.bytes
  have hr := B.returns
  have hts := atoms_spec (ws := wsX0_canGoOn) B.pre
  have hown : s.vm.findClass RX0 = some m.cls := findClass_of_methodNamed B.named
  have hlocks := B.notSynchronized
  subst hsz
  have hD := hD0.self (sz := s.heap.size)
  generalize hAe : va_A (wAct0 h cs I L A Q G J) s.heap.size = A0 at hD ⊢
  have hA : ∀ q : Nat, s.heap.size ≤ q → A0 q := fun q h => by rw [← hAe]; exact Or.inr h
  have hl := lv_entry ([.ref (h 102)]) (n := 1) (Nat.le_of_ble_eq_true rfl)
  rw [lg_entry_eq]
  generalize (lg_sl ([.ref (h 102)]) ++ List.replicate (1 - (lg_sl ([.ref (h 102)])).length) Slot.unset).toArray = ls at hl ⊢
  have hl : lv_has ls 1 [(0, .ref (h 102))] := hl
  generalize hH : s.heap = H at hP ⊢
  have hS : va_S A0 s.heap H [] := by rw [← hH]; exact va_S.rf
  have hinX0 : ∀ w ∈ wsX00, w ∈ wsX0_canGoOn := by decide +kernel
  refine lv_aload_n hx hb dX0_canGoOn_0 rfl (lv_at hl 0 rfl) ?_
  refine va_get (D := (dC, dI)) (ci := 0) (v := .int (I 146)) (C := RX0) (T := TX0) (N := 8) hx hb hts hinX0 hown hK hP 0 rfl rfl 7 (by decide) (hts (.fieldLink RX0 29 "MixedWords$Acts" "on" "I") (by decide +kernel)) (fun _ h9 => h9) rfl dX0_canGoOn_1 ?_
  refine xt_i (y := nI on) (hon) ?_
  refine lv_if_le (tgt := 11) hx hb dX0_canGoOn_4 (by decide) (fun c_4_0 => ?_) (fun c_4_0 => ?_)
  · skip
    refine lv_iconst (v := nI 0) hx hb dX0_canGoOn_11 (by decide) ?_
    exact xr_z (v := (nI 0)) hx hb hr hlocks hK hS dX0_canGoOn_12 (rfl) (I, L, A, Q, G, J) ⟨(Or.inr ⟨rfl, le0 (by omega) (by assumption)⟩), rfl⟩ hP hD
  · skip
    refine lv_iconst (v := nI 1) hx hb dX0_canGoOn_7 (by decide) ?_
    refine lv_goto (tgt := 12) hx hb dX0_canGoOn_8 (by decide) ?_
    exact xr_z (v := (nI 1)) hx hb hr hlocks hK hS dX0_canGoOn_12 (rfl) (I, L, A, Q, G, J) ⟨(Or.inl ⟨rfl, nle0 (by assumption)⟩), rfl⟩ hP hD
set_option maxRecDepth 20000 in
theorem ggX0_take_X3_at : GoodIn wsX0_take wsX3_at := goodIn_r _ [13, 14, 15, 16, 30, 31, 32, 33, 34, 35] rfl (by decide +kernel)
set_option maxRecDepth 20000 in
theorem gX0_take_X3_at : GoodIn wsX0_take (wsV RX0 36 RX3 yX3_at wsX3_at) := goodIn_app (goodIn_of _ (by decide +kernel)) ggX0_take_X3_at
set_option maxRecDepth 20000 in
theorem ggX0_take_X3_put : GoodIn wsX0_take wsX3_put := goodIn_r _ [20, 14, 15, 16, 21, 30, 31, 32, 33, 34, 35] rfl (by decide +kernel)
set_option maxRecDepth 20000 in
theorem gX0_take_X3_put : GoodIn wsX0_take (wsV RX0 42 RX3 yX3_put wsX3_put) := goodIn_app (goodIn_of _ (by decide +kernel)) ggX0_take_X3_put
theorem bdX0_take_0 : (decode cX0_take 0 = .ok (.aload_n 0, 1)) ∧ (decode cX0_take 1 = .ok (.getfield 32, 3)) ∧ (decode cX0_take 4 = .ok (.iload_n 1, 1)) ∧ (decode cX0_take 5 = .ok (.iload_n 2, 1)) ∧ (decode cX0_take 6 = .ok (.invokevirtual 36, 3)) ∧ (decode cX0_take 9 = .ok (.istore 4, 2)) ∧ (decode cX0_take 11 = .ok (.aload_n 0, 1)) ∧ (decode cX0_take 12 = .ok (.getfield 26, 3)) ∧ (decode cX0_take 15 = .ok (.bipush 40, 2)) ∧ (decode cX0_take 17 = .ok (.if_icmp .ne 26, 3)) ∧ (decode cX0_take 20 = .ok (.aload_n 0, 1)) ∧ (decode cX0_take 21 = .ok (.aload_n 0, 1)) ∧ (decode cX0_take 22 = .ok (.getfield 22, 3)) ∧ (decode cX0_take 25 = .ok (.iconst 1, 1)) ∧ (decode cX0_take 26 = .ok (.iadd, 1)) ∧ (decode cX0_take 27 = .ok (.bipush 40, 2)) := by decide +kernel
theorem dX0_take_0 : decode cX0_take 0 = .ok (.aload_n 0, 1) := bdX0_take_0.1
theorem dX0_take_1 : decode cX0_take 1 = .ok (.getfield 32, 3) := bdX0_take_0.2.1
theorem dX0_take_4 : decode cX0_take 4 = .ok (.iload_n 1, 1) := bdX0_take_0.2.2.1
theorem dX0_take_5 : decode cX0_take 5 = .ok (.iload_n 2, 1) := bdX0_take_0.2.2.2.1
theorem dX0_take_6 : decode cX0_take 6 = .ok (.invokevirtual 36, 3) := bdX0_take_0.2.2.2.2.1
theorem dX0_take_9 : decode cX0_take 9 = .ok (.istore 4, 2) := bdX0_take_0.2.2.2.2.2.1
theorem dX0_take_11 : decode cX0_take 11 = .ok (.aload_n 0, 1) := bdX0_take_0.2.2.2.2.2.2.1
theorem dX0_take_12 : decode cX0_take 12 = .ok (.getfield 26, 3) := bdX0_take_0.2.2.2.2.2.2.2.1
theorem dX0_take_15 : decode cX0_take 15 = .ok (.bipush 40, 2) := bdX0_take_0.2.2.2.2.2.2.2.2.1
theorem dX0_take_17 : decode cX0_take 17 = .ok (.if_icmp .ne 26, 3) := bdX0_take_0.2.2.2.2.2.2.2.2.2.1
theorem dX0_take_20 : decode cX0_take 20 = .ok (.aload_n 0, 1) := bdX0_take_0.2.2.2.2.2.2.2.2.2.2.1
theorem dX0_take_21 : decode cX0_take 21 = .ok (.aload_n 0, 1) := bdX0_take_0.2.2.2.2.2.2.2.2.2.2.2.1
theorem dX0_take_22 : decode cX0_take 22 = .ok (.getfield 22, 3) := bdX0_take_0.2.2.2.2.2.2.2.2.2.2.2.2.1
theorem dX0_take_25 : decode cX0_take 25 = .ok (.iconst 1, 1) := bdX0_take_0.2.2.2.2.2.2.2.2.2.2.2.2.2.1
theorem dX0_take_26 : decode cX0_take 26 = .ok (.iadd, 1) := bdX0_take_0.2.2.2.2.2.2.2.2.2.2.2.2.2.2.1
theorem dX0_take_27 : decode cX0_take 27 = .ok (.bipush 40, 2) := bdX0_take_0.2.2.2.2.2.2.2.2.2.2.2.2.2.2.2
theorem bdX0_take_29 : (decode cX0_take 29 = .ok (.irem, 1)) ∧ (decode cX0_take 30 = .ok (.putfield 22, 3)) ∧ (decode cX0_take 33 = .ok (.aload_n 0, 1)) ∧ (decode cX0_take 34 = .ok (.dup, 1)) ∧ (decode cX0_take 35 = .ok (.getfield 26, 3)) ∧ (decode cX0_take 38 = .ok (.iconst 1, 1)) ∧ (decode cX0_take 39 = .ok (.isub, 1)) ∧ (decode cX0_take 40 = .ok (.putfield 26, 3)) ∧ (decode cX0_take 43 = .ok (.aload_n 0, 1)) ∧ (decode cX0_take 44 = .ok (.getfield 22, 3)) ∧ (decode cX0_take 47 = .ok (.aload_n 0, 1)) ∧ (decode cX0_take 48 = .ok (.getfield 26, 3)) ∧ (decode cX0_take 51 = .ok (.iadd, 1)) ∧ (decode cX0_take 52 = .ok (.bipush 40, 2)) ∧ (decode cX0_take 54 = .ok (.irem, 1)) ∧ (decode cX0_take 55 = .ok (.istore 5, 2)) := by decide +kernel
theorem dX0_take_29 : decode cX0_take 29 = .ok (.irem, 1) := bdX0_take_29.1
theorem dX0_take_30 : decode cX0_take 30 = .ok (.putfield 22, 3) := bdX0_take_29.2.1
theorem dX0_take_33 : decode cX0_take 33 = .ok (.aload_n 0, 1) := bdX0_take_29.2.2.1
theorem dX0_take_34 : decode cX0_take 34 = .ok (.dup, 1) := bdX0_take_29.2.2.2.1
theorem dX0_take_35 : decode cX0_take 35 = .ok (.getfield 26, 3) := bdX0_take_29.2.2.2.2.1
theorem dX0_take_38 : decode cX0_take 38 = .ok (.iconst 1, 1) := bdX0_take_29.2.2.2.2.2.1
theorem dX0_take_39 : decode cX0_take 39 = .ok (.isub, 1) := bdX0_take_29.2.2.2.2.2.2.1
theorem dX0_take_40 : decode cX0_take 40 = .ok (.putfield 26, 3) := bdX0_take_29.2.2.2.2.2.2.2.1
theorem dX0_take_43 : decode cX0_take 43 = .ok (.aload_n 0, 1) := bdX0_take_29.2.2.2.2.2.2.2.2.1
theorem dX0_take_44 : decode cX0_take 44 = .ok (.getfield 22, 3) := bdX0_take_29.2.2.2.2.2.2.2.2.2.1
theorem dX0_take_47 : decode cX0_take 47 = .ok (.aload_n 0, 1) := bdX0_take_29.2.2.2.2.2.2.2.2.2.2.1
theorem dX0_take_48 : decode cX0_take 48 = .ok (.getfield 26, 3) := bdX0_take_29.2.2.2.2.2.2.2.2.2.2.2.1
theorem dX0_take_51 : decode cX0_take 51 = .ok (.iadd, 1) := bdX0_take_29.2.2.2.2.2.2.2.2.2.2.2.2.1
theorem dX0_take_52 : decode cX0_take 52 = .ok (.bipush 40, 2) := bdX0_take_29.2.2.2.2.2.2.2.2.2.2.2.2.2.1
theorem dX0_take_54 : decode cX0_take 54 = .ok (.irem, 1) := bdX0_take_29.2.2.2.2.2.2.2.2.2.2.2.2.2.2.1
theorem dX0_take_55 : decode cX0_take 55 = .ok (.istore 5, 2) := bdX0_take_29.2.2.2.2.2.2.2.2.2.2.2.2.2.2.2
theorem bdX0_take_57 : (decode cX0_take 57 = .ok (.aload_n 0, 1)) ∧ (decode cX0_take 58 = .ok (.getfield 9, 3)) ∧ (decode cX0_take 61 = .ok (.iload 5, 2)) ∧ (decode cX0_take 63 = .ok (.iload_n 1, 1)) ∧ (decode cX0_take 64 = .ok (.iastore, 1)) ∧ (decode cX0_take 65 = .ok (.aload_n 0, 1)) ∧ (decode cX0_take 66 = .ok (.getfield 13, 3)) ∧ (decode cX0_take 69 = .ok (.iload 5, 2)) ∧ (decode cX0_take 71 = .ok (.iload_n 2, 1)) ∧ (decode cX0_take 72 = .ok (.iastore, 1)) ∧ (decode cX0_take 73 = .ok (.aload_n 0, 1)) ∧ (decode cX0_take 74 = .ok (.getfield 16, 3)) ∧ (decode cX0_take 77 = .ok (.iload 5, 2)) ∧ (decode cX0_take 79 = .ok (.iload 4, 2)) ∧ (decode cX0_take 81 = .ok (.iastore, 1)) ∧ (decode cX0_take 82 = .ok (.aload_n 0, 1)) := by decide +kernel
theorem dX0_take_57 : decode cX0_take 57 = .ok (.aload_n 0, 1) := bdX0_take_57.1
theorem dX0_take_58 : decode cX0_take 58 = .ok (.getfield 9, 3) := bdX0_take_57.2.1
theorem dX0_take_61 : decode cX0_take 61 = .ok (.iload 5, 2) := bdX0_take_57.2.2.1
theorem dX0_take_63 : decode cX0_take 63 = .ok (.iload_n 1, 1) := bdX0_take_57.2.2.2.1
theorem dX0_take_64 : decode cX0_take 64 = .ok (.iastore, 1) := bdX0_take_57.2.2.2.2.1
theorem dX0_take_65 : decode cX0_take 65 = .ok (.aload_n 0, 1) := bdX0_take_57.2.2.2.2.2.1
theorem dX0_take_66 : decode cX0_take 66 = .ok (.getfield 13, 3) := bdX0_take_57.2.2.2.2.2.2.1
theorem dX0_take_69 : decode cX0_take 69 = .ok (.iload 5, 2) := bdX0_take_57.2.2.2.2.2.2.2.1
theorem dX0_take_71 : decode cX0_take 71 = .ok (.iload_n 2, 1) := bdX0_take_57.2.2.2.2.2.2.2.2.1
theorem dX0_take_72 : decode cX0_take 72 = .ok (.iastore, 1) := bdX0_take_57.2.2.2.2.2.2.2.2.2.1
theorem dX0_take_73 : decode cX0_take 73 = .ok (.aload_n 0, 1) := bdX0_take_57.2.2.2.2.2.2.2.2.2.2.1
theorem dX0_take_74 : decode cX0_take 74 = .ok (.getfield 16, 3) := bdX0_take_57.2.2.2.2.2.2.2.2.2.2.2.1
theorem dX0_take_77 : decode cX0_take 77 = .ok (.iload 5, 2) := bdX0_take_57.2.2.2.2.2.2.2.2.2.2.2.2.1
theorem dX0_take_79 : decode cX0_take 79 = .ok (.iload 4, 2) := bdX0_take_57.2.2.2.2.2.2.2.2.2.2.2.2.2.1
theorem dX0_take_81 : decode cX0_take 81 = .ok (.iastore, 1) := bdX0_take_57.2.2.2.2.2.2.2.2.2.2.2.2.2.2.1
theorem dX0_take_82 : decode cX0_take 82 = .ok (.aload_n 0, 1) := bdX0_take_57.2.2.2.2.2.2.2.2.2.2.2.2.2.2.2
theorem bdX0_take_83 : (decode cX0_take 83 = .ok (.getfield 19, 3)) ∧ (decode cX0_take 86 = .ok (.iload 5, 2)) ∧ (decode cX0_take 88 = .ok (.iload_n 3, 1)) ∧ (decode cX0_take 89 = .ok (.iastore, 1)) ∧ (decode cX0_take 90 = .ok (.aload_n 0, 1)) ∧ (decode cX0_take 91 = .ok (.dup, 1)) ∧ (decode cX0_take 92 = .ok (.getfield 26, 3)) ∧ (decode cX0_take 95 = .ok (.iconst 1, 1)) ∧ (decode cX0_take 96 = .ok (.iadd, 1)) ∧ (decode cX0_take 97 = .ok (.putfield 26, 3)) ∧ (decode cX0_take 100 = .ok (.aload_n 0, 1)) ∧ (decode cX0_take 101 = .ok (.iconst 0, 1)) ∧ (decode cX0_take 102 = .ok (.putfield 29, 3)) ∧ (decode cX0_take 105 = .ok (.aload_n 0, 1)) ∧ (decode cX0_take 106 = .ok (.getfield 32, 3)) ∧ (decode cX0_take 109 = .ok (.iload_n 1, 1)) := by decide +kernel
theorem dX0_take_83 : decode cX0_take 83 = .ok (.getfield 19, 3) := bdX0_take_83.1
theorem dX0_take_86 : decode cX0_take 86 = .ok (.iload 5, 2) := bdX0_take_83.2.1
theorem dX0_take_88 : decode cX0_take 88 = .ok (.iload_n 3, 1) := bdX0_take_83.2.2.1
theorem dX0_take_89 : decode cX0_take 89 = .ok (.iastore, 1) := bdX0_take_83.2.2.2.1
theorem dX0_take_90 : decode cX0_take 90 = .ok (.aload_n 0, 1) := bdX0_take_83.2.2.2.2.1
theorem dX0_take_91 : decode cX0_take 91 = .ok (.dup, 1) := bdX0_take_83.2.2.2.2.2.1
theorem dX0_take_92 : decode cX0_take 92 = .ok (.getfield 26, 3) := bdX0_take_83.2.2.2.2.2.2.1
theorem dX0_take_95 : decode cX0_take 95 = .ok (.iconst 1, 1) := bdX0_take_83.2.2.2.2.2.2.2.1
theorem dX0_take_96 : decode cX0_take 96 = .ok (.iadd, 1) := bdX0_take_83.2.2.2.2.2.2.2.2.1
theorem dX0_take_97 : decode cX0_take 97 = .ok (.putfield 26, 3) := bdX0_take_83.2.2.2.2.2.2.2.2.2.1
theorem dX0_take_100 : decode cX0_take 100 = .ok (.aload_n 0, 1) := bdX0_take_83.2.2.2.2.2.2.2.2.2.2.1
theorem dX0_take_101 : decode cX0_take 101 = .ok (.iconst 0, 1) := bdX0_take_83.2.2.2.2.2.2.2.2.2.2.2.1
theorem dX0_take_102 : decode cX0_take 102 = .ok (.putfield 29, 3) := bdX0_take_83.2.2.2.2.2.2.2.2.2.2.2.2.1
theorem dX0_take_105 : decode cX0_take 105 = .ok (.aload_n 0, 1) := bdX0_take_83.2.2.2.2.2.2.2.2.2.2.2.2.2.1
theorem dX0_take_106 : decode cX0_take 106 = .ok (.getfield 32, 3) := bdX0_take_83.2.2.2.2.2.2.2.2.2.2.2.2.2.2.1
theorem dX0_take_109 : decode cX0_take 109 = .ok (.iload_n 1, 1) := bdX0_take_83.2.2.2.2.2.2.2.2.2.2.2.2.2.2.2
theorem bdX0_take_110 : (decode cX0_take 110 = .ok (.iload_n 2, 1)) ∧ (decode cX0_take 111 = .ok (.iload_n 3, 1)) ∧ (decode cX0_take 112 = .ok (.invokevirtual 42, 3)) ∧ (decode cX0_take 115 = .ok (.iload 4, 2)) ∧ (decode cX0_take 117 = .ok (.ireturn, 1)) := by decide +kernel
theorem dX0_take_110 : decode cX0_take 110 = .ok (.iload_n 2, 1) := bdX0_take_110.1
theorem dX0_take_111 : decode cX0_take 111 = .ok (.iload_n 3, 1) := bdX0_take_110.2.1
theorem dX0_take_112 : decode cX0_take 112 = .ok (.invokevirtual 42, 3) := bdX0_take_110.2.2.1
theorem dX0_take_115 : decode cX0_take 115 = .ok (.iload 4, 2) := bdX0_take_110.2.2.2.1
theorem dX0_take_117 : decode cX0_take 117 = .ok (.ireturn, 1) := bdX0_take_110.2.2.2.2
set_option maxHeartbeats 4000000 in
set_option maxRecDepth 100000 in
theorem k_X0_take (l : Launch) (dC : Nat → ClassId) (dI : Nat → Nat → Nat) (h : Nat → Nat) (cs : Nat → ClassId) (sz : Nat) (I : Nat → Int32) (L : Nat → Int64) (A : Nat → Nat → Int32) (Q : Nat → Nat → Int64) (G : Nat → Nat → Nat → Int32) (J : Nat → Nat → Nat → Int64) (i j : Nat) (v : Int32) (M sp9 o bk : Nat) (hi : i < 5) (hj : j ≤ M) (hM : I 121 = nI M) (hM1 : 1 ≤ M) (hM4 : M ≤ 4) (hst : I 123 = nI sp9) (hst2 : sp9 < 1000000000) (ho : I 144 = nI o) (ho4 : o < 40) (hbk : I 145 = nI bk) (hbk4 : bk ≤ 40) : Met l yX0_take wsX0_take ({ frames := 1, cells := 0, slots := 0, locals := 23 }) (va_Pc [.ref (h 102), .int (nI i), .int (nI j), .int v] (xPre (dC, dI) (wActs h cs I L A Q G J) (tysA cs) sz)) (va_Qi (fun (r : Int32) (u : CS) => ∃ x123 : Int32, ∃ f136 : Nat → Int32, ∃ g0 : Nat → Nat → Int32, ∃ x144 : Int32, ∃ x145 : Int32, ∃ x146 : Int32, ∃ f140 : Nat → Int32, ∃ f141 : Nat → Int32, ∃ f142 : Nat → Int32, ∃ f143 : Nat → Int32, (r = atF (A 136) (G 0) M i j ∧ x123 = nI (sp9 + 1) ∧ putP M i j v (A 136) (G 0) f136 g0 ∧ ∃ o2 b2 : Nat, ((bk < 40 ∧ o2 = o ∧ b2 = bk) ∨ (bk = 40 ∧ o2 = (o + 1) % 40 ∧ b2 = 39)) ∧ x144 = nI o2 ∧ x145 = nI (b2 + 1) ∧ x146 = nI 0 ∧ f140 = upd (A 140) ((o2 + b2) % 40) (nI i) ∧ f141 = upd (A 141) ((o2 + b2) % 40) (nI j) ∧ f142 = upd (A 142) ((o2 + b2) % 40) (atF (A 136) (G 0) M i j) ∧ f143 = upd (A 143) ((o2 + b2) % 40) v) ∧ u = ((va_up (va_up (va_up (va_up I 123 x123) 144 x144) 145 x145) 146 x146), L, (va_up (va_up (va_up (va_up (va_up A 136 f136) 140 f140) 141 f141) 142 f142) 143 f143), Q, (va_up G 0 g0), J)) (xB (dC, dI) (tysA cs) (va_A (wActs h cs I L A Q G J) sz) (fun u : CS => wActs h cs u.1 u.2.1 u.2.2.1 u.2.2.2.1 u.2.2.2.2.1 u.2.2.2.2.2)) (va_A (wActs h cs I L A Q G J) sz)) 0 0 (va_A (wActs h cs I L A Q G J) sz) := by
  refine Met.ofW (cc := cX0_take) (maxL := 6) (ret := (some .int)) (by decide) rfl ?_
  intro p e s m args below meth c s₁ B hml hv
  obtain ⟨rfl, hsz, hP, hK, hD0, hN⟩ := hv
  have hx := B.exec
  have hb := B.bytes
  have hr := B.returns
  have hts := atoms_spec (ws := wsX0_take) B.pre
  have hown : s.vm.findClass RX0 = some m.cls := findClass_of_methodNamed B.named
  have hlocks := B.notSynchronized
  subst hsz
  have hD := hD0.self (sz := s.heap.size)
  generalize hAe : va_A (wActs h cs I L A Q G J) s.heap.size = A0 at hD ⊢
  have hA : ∀ q : Nat, s.heap.size ≤ q → A0 q := fun q h => by rw [← hAe]; exact Or.inr h
  have hl := lv_entry ([.ref (h 102), .int (nI i), .int (nI j), .int v]) (n := 6) (Nat.le_of_ble_eq_true rfl)
  rw [lg_entry_eq]
  generalize (lg_sl ([.ref (h 102), .int (nI i), .int (nI j), .int v]) ++ List.replicate (6 - (lg_sl ([.ref (h 102), .int (nI i), .int (nI j), .int v])).length) Slot.unset).toArray = ls at hl ⊢
  have hl : lv_has ls 6 [(0, .ref (h 102)), (1, .int (nI i)), (2, .int (nI j)), (3, .int v)] := hl
  generalize hH : s.heap = H at hP ⊢
  have hS : va_S A0 s.heap H [] := by rw [← hH]; exact va_S.rf
  have hinX0 : ∀ w ∈ wsX00, w ∈ wsX0_take := by decide +kernel
  refine lv_aload_n hx hb dX0_take_0 rfl (lv_at hl 0 rfl) ?_
  refine va_get (D := (dC, dI)) (ci := 0) (v := .ref (h 101)) (C := RX0) (T := TX0) (N := 8) hx hb hts hinX0 hown hK hP 0 rfl rfl 0 (by decide) (hts (.fieldLink RX0 32 "MixedWords$Acts" "mix" "LMixedWords$Mix;") (by decide +kernel)) (fun _ h9 => h9) rfl dX0_take_1 ?_
  refine lv_iload_n hx hb dX0_take_4 rfl (lv_at hl 1 rfl) ?_
  refine lv_iload_n hx hb dX0_take_5 rfl (lv_at hl 2 rfl) ?_
  refine xj_i (wc := (wMix h cs I L A Q G J)) (wr := [(h 102, .inr (0, [.ref (h 101), .ref (h 140), .ref (h 141), .ref (h 142), .ref (h 143), .int (I 144), .int (I 145), .int (I 146)])), (h 140, .inl (cs 0, 40, .inl (A 140))), (h 141, .inl (cs 0, 40, .inl (A 141))), (h 142, .inl (cs 0, 40, .inl (A 142))), (h 143, .inl (cs 0, 40, .inl (A 143)))]) hP hD hS hA [5, 6, 7, 8, 9, 10, 11, 12] [0, 1, 2, 3, 4] rfl rfl (by decide +kernel) (by decide +kernel) (va_runV (As := [.int (nI i), .int (nI j)]) (rest := []) ⟨hx, hb, hml, hown, hts⟩ (k_X3_at l dC dI h cs H.size I L A Q G J i j M (by first | assumption | omega | exact hi) (by first | assumption | omega | exact hj) hM (by first | assumption | omega | exact hM1) (by first | assumption | omega | exact hM4)) (cwV 2 hts gX0_take_X3_at rfl rfl rfl (by decide +kernel) ⟨Nat.le_of_ble_eq_true rfl, Nat.le_of_ble_eq_true rfl⟩) (xpV (wc := (wMix h cs I L A Q G J)) hP hD hK hN [5, 6, 7, 8, 9, 10, 11, 12] rfl (by decide) 5 (ci := 3) rfl rfl _) rfl rfl hl.1 rfl (lv_room (Nat.le_of_ble_eq_true rfl)) dX0_take_6 ⟨Nat.zero_le _, Nat.zero_le _⟩) (fun r_2 u_1 H locs hw hP hD hS => ?_)
  obtain ⟨hf_3, rfl⟩ := hw
  have hP : va_P (dC, dI) vwCl (wActs h cs I L A Q G J) H := hP
  have hD : va_D A0 (wActs h cs I L A Q G J) := hD
  obtain rfl := hf_3
  refine lv_istore (lv' := [(4, .int (atF (A 136) (G 0) M i j)), (0, .ref (h 102)), (1, .int (nI i)), (2, .int (nI j)), (3, .int v)]) hx hb dX0_take_9 hl (by decide) rfl (fun ls hl => ?_)
  refine lv_aload_n hx hb dX0_take_11 rfl (lv_at hl 1 rfl) ?_
  refine va_get (D := (dC, dI)) (ci := 0) (v := .int (I 145)) (C := RX0) (T := TX0) (N := 8) hx hb hts hinX0 hown hK hP 0 rfl rfl 6 (by decide) (hts (.fieldLink RX0 26 "MixedWords$Acts" "back" "I") (by decide +kernel)) (fun _ h9 => h9) rfl dX0_take_12 ?_
  refine xt_i (y := nI bk) (hbk) ?_
  refine lv_bipush (v := nI 40) hx hb dX0_take_15 (by decide) ?_
  refine xn_ne (tgt := 43) hx hb dX0_take_17 (by decide) (by omega) (by omega) (fun c_17_3 => ?_) (fun c_17_3 => ?_)
  · skip
    refine lv_aload_n hx hb dX0_take_43 rfl (lv_at hl 1 rfl) ?_
    refine va_get (D := (dC, dI)) (ci := 0) (v := .int (I 144)) (C := RX0) (T := TX0) (N := 8) hx hb hts hinX0 hown hK hP 0 rfl rfl 5 (by decide) (hts (.fieldLink RX0 22 "MixedWords$Acts" "oldest" "I") (by decide +kernel)) (fun _ h9 => h9) rfl dX0_take_44 ?_
    refine xt_i (y := nI o) (ho) ?_
    refine lv_aload_n hx hb dX0_take_47 rfl (lv_at hl 1 rfl) ?_
    refine va_get (D := (dC, dI)) (ci := 0) (v := .int (I 145)) (C := RX0) (T := TX0) (N := 8) hx hb hts hinX0 hown hK hP 0 rfl rfl 6 (by decide) (hts (.fieldLink RX0 26 "MixedWords$Acts" "back" "I") (by decide +kernel)) (fun _ h9 => h9) rfl dX0_take_48 ?_
    refine xt_i (y := nI bk) (hbk) ?_
    refine lv_iadd hx hb dX0_take_51 ?_
    refine xt_i (y := nI (o + bk)) (nI_add _ _) ?_
    refine lv_bipush (v := nI 40) hx hb dX0_take_52 (by decide) ?_
    refine lv_irem hx hb dX0_take_54 (nI_ne0 (by omega) (by omega)) ?_
    refine xt_i (y := nI ((o + bk) % 40)) (pk_rem (by omega) (by omega) (by omega)) ?_
    refine lv_istore (lv' := [(5, .int (nI ((o + bk) % 40))), (4, .int (atF (A 136) (G 0) M i j)), (0, .ref (h 102)), (1, .int (nI i)), (2, .int (nI j)), (3, .int v)]) hx hb dX0_take_55 hl (by decide) rfl (fun ls hl => ?_)
    refine lv_aload_n hx hb dX0_take_57 rfl (lv_at hl 2 rfl) ?_
    refine va_get (D := (dC, dI)) (ci := 0) (v := .ref (h 140)) (C := RX0) (T := TX0) (N := 8) hx hb hts hinX0 hown hK hP 0 rfl rfl 1 (by decide) (hts (.fieldLink RX0 9 "MixedWords$Acts" "rowOf" "[I") (by decide +kernel)) (fun _ h9 => h9) rfl dX0_take_58 ?_
    refine lv_iload hx hb dX0_take_61 (lv_at hl 0 rfl) ?_
    refine lv_iload_n hx hb dX0_take_63 rfl (lv_at hl 3 rfl) ?_
    refine xa_iast hx hb hK hP hD hS 1 0 rfl rfl (by omega) (by decide) dX0_take_64 (fun H locs hP hD hS => ?_)
    have hP : va_P (dC, dI) vwCl (wActs h cs I L (va_up A 140 (upd (A 140) ((o + bk) % 40) (nI i))) Q G J) H := hP
    have hD : va_D A0 (wActs h cs I L (va_up A 140 (upd (A 140) ((o + bk) % 40) (nI i))) Q G J) := hD
    refine lv_aload_n hx hb dX0_take_65 rfl (lv_at hl 2 rfl) ?_
    refine va_get (D := (dC, dI)) (ci := 0) (v := .ref (h 141)) (C := RX0) (T := TX0) (N := 8) hx hb hts hinX0 hown hK hP 0 rfl rfl 2 (by decide) (hts (.fieldLink RX0 13 "MixedWords$Acts" "columnOf" "[I") (by decide +kernel)) (fun _ h9 => h9) rfl dX0_take_66 ?_
    refine lv_iload hx hb dX0_take_69 (lv_at hl 0 rfl) ?_
    refine lv_iload_n hx hb dX0_take_71 rfl (lv_at hl 4 rfl) ?_
    refine xa_iast hx hb hK hP hD hS 2 0 rfl rfl (by omega) (by decide) dX0_take_72 (fun H locs hP hD hS => ?_)
    have hP : va_P (dC, dI) vwCl (wActs h cs I L (va_up (va_up A 140 (upd (A 140) ((o + bk) % 40) (nI i))) 141 (upd (A 141) ((o + bk) % 40) (nI j))) Q G J) H := hP
    have hD : va_D A0 (wActs h cs I L (va_up (va_up A 140 (upd (A 140) ((o + bk) % 40) (nI i))) 141 (upd (A 141) ((o + bk) % 40) (nI j))) Q G J) := hD
    refine lv_aload_n hx hb dX0_take_73 rfl (lv_at hl 2 rfl) ?_
    refine va_get (D := (dC, dI)) (ci := 0) (v := .ref (h 142)) (C := RX0) (T := TX0) (N := 8) hx hb hts hinX0 hown hK hP 0 rfl rfl 3 (by decide) (hts (.fieldLink RX0 16 "MixedWords$Acts" "before" "[I") (by decide +kernel)) (fun _ h9 => h9) rfl dX0_take_74 ?_
    refine lv_iload hx hb dX0_take_77 (lv_at hl 0 rfl) ?_
    refine lv_iload hx hb dX0_take_79 (lv_at hl 1 rfl) ?_
    refine xa_iast hx hb hK hP hD hS 3 0 rfl rfl (by omega) (by decide) dX0_take_81 (fun H locs hP hD hS => ?_)
    have hP : va_P (dC, dI) vwCl (wActs h cs I L (va_up (va_up (va_up A 140 (upd (A 140) ((o + bk) % 40) (nI i))) 141 (upd (A 141) ((o + bk) % 40) (nI j))) 142 (upd (A 142) ((o + bk) % 40) (atF (A 136) (G 0) M i j))) Q G J) H := hP
    have hD : va_D A0 (wActs h cs I L (va_up (va_up (va_up A 140 (upd (A 140) ((o + bk) % 40) (nI i))) 141 (upd (A 141) ((o + bk) % 40) (nI j))) 142 (upd (A 142) ((o + bk) % 40) (atF (A 136) (G 0) M i j))) Q G J) := hD
    refine lv_aload_n hx hb dX0_take_82 rfl (lv_at hl 2 rfl) ?_
    refine va_get (D := (dC, dI)) (ci := 0) (v := .ref (h 143)) (C := RX0) (T := TX0) (N := 8) hx hb hts hinX0 hown hK hP 0 rfl rfl 4 (by decide) (hts (.fieldLink RX0 19 "MixedWords$Acts" "after" "[I") (by decide +kernel)) (fun _ h9 => h9) rfl dX0_take_83 ?_
    refine lv_iload hx hb dX0_take_86 (lv_at hl 0 rfl) ?_
    refine lv_iload_n hx hb dX0_take_88 rfl (lv_at hl 5 rfl) ?_
    refine xa_iast hx hb hK hP hD hS 4 0 rfl rfl (by omega) (by decide) dX0_take_89 (fun H locs hP hD hS => ?_)
    have hP : va_P (dC, dI) vwCl (wActs h cs I L (va_up (va_up (va_up (va_up A 140 (upd (A 140) ((o + bk) % 40) (nI i))) 141 (upd (A 141) ((o + bk) % 40) (nI j))) 142 (upd (A 142) ((o + bk) % 40) (atF (A 136) (G 0) M i j))) 143 (upd (A 143) ((o + bk) % 40) v)) Q G J) H := hP
    have hD : va_D A0 (wActs h cs I L (va_up (va_up (va_up (va_up A 140 (upd (A 140) ((o + bk) % 40) (nI i))) 141 (upd (A 141) ((o + bk) % 40) (nI j))) 142 (upd (A 142) ((o + bk) % 40) (atF (A 136) (G 0) M i j))) 143 (upd (A 143) ((o + bk) % 40) v)) Q G J) := hD
    refine lv_aload_n hx hb dX0_take_90 rfl (lv_at hl 2 rfl) ?_
    refine lv_dup hx hb dX0_take_91 rfl ?_
    refine va_get (D := (dC, dI)) (ci := 0) (v := .int (I 145)) (C := RX0) (T := TX0) (N := 8) hx hb hts hinX0 hown hK hP 0 rfl rfl 6 (by decide) (hts (.fieldLink RX0 26 "MixedWords$Acts" "back" "I") (by decide +kernel)) (fun _ h9 => h9) rfl dX0_take_92 ?_
    refine xt_i (y := nI bk) (hbk) ?_
    refine lv_iconst (v := nI 1) hx hb dX0_take_95 (by decide) ?_
    refine lv_iadd hx hb dX0_take_96 ?_
    refine xt_i (y := nI (bk + 1)) (nI_add _ _) ?_
    refine va_put (D := (dC, dI)) (ci := 0) (v := .int (nI (bk + 1))) (ty := .int) (C := RX0) (T := TX0) (N := 8) hx hb hts hinX0 tyX0 tyX0_ok nmX0 hown hK hP hD hS 0 rfl rfl 6 (by decide) (hts (.fieldLink RX0 26 "MixedWords$Acts" "back" "I") (by decide +kernel)) (fun _ h9 => h9) rfl (by decide +kernel) rfl rfl (Nat.le_of_ble_eq_true rfl) dX0_take_97 (fun H locs hP hD hS => ?_)
    have hP : va_P (dC, dI) vwCl (wActs h cs (va_up I 145 (nI (bk + 1))) L (va_up (va_up (va_up (va_up A 140 (upd (A 140) ((o + bk) % 40) (nI i))) 141 (upd (A 141) ((o + bk) % 40) (nI j))) 142 (upd (A 142) ((o + bk) % 40) (atF (A 136) (G 0) M i j))) 143 (upd (A 143) ((o + bk) % 40) v)) Q G J) H := hP
    have hD : va_D A0 (wActs h cs (va_up I 145 (nI (bk + 1))) L (va_up (va_up (va_up (va_up A 140 (upd (A 140) ((o + bk) % 40) (nI i))) 141 (upd (A 141) ((o + bk) % 40) (nI j))) 142 (upd (A 142) ((o + bk) % 40) (atF (A 136) (G 0) M i j))) 143 (upd (A 143) ((o + bk) % 40) v)) Q G J) := hD
    refine lv_aload_n hx hb dX0_take_100 rfl (lv_at hl 2 rfl) ?_
    refine lv_iconst (v := nI 0) hx hb dX0_take_101 (by decide) ?_
    refine va_put (D := (dC, dI)) (ci := 0) (v := .int (nI 0)) (ty := .int) (C := RX0) (T := TX0) (N := 8) hx hb hts hinX0 tyX0 tyX0_ok nmX0 hown hK hP hD hS 0 rfl rfl 7 (by decide) (hts (.fieldLink RX0 29 "MixedWords$Acts" "on" "I") (by decide +kernel)) (fun _ h9 => h9) rfl (by decide +kernel) rfl rfl (Nat.le_of_ble_eq_true rfl) dX0_take_102 (fun H locs hP hD hS => ?_)
    have hP : va_P (dC, dI) vwCl (wActs h cs (va_up (va_up I 145 (nI (bk + 1))) 146 (nI 0)) L (va_up (va_up (va_up (va_up A 140 (upd (A 140) ((o + bk) % 40) (nI i))) 141 (upd (A 141) ((o + bk) % 40) (nI j))) 142 (upd (A 142) ((o + bk) % 40) (atF (A 136) (G 0) M i j))) 143 (upd (A 143) ((o + bk) % 40) v)) Q G J) H := hP
    have hD : va_D A0 (wActs h cs (va_up (va_up I 145 (nI (bk + 1))) 146 (nI 0)) L (va_up (va_up (va_up (va_up A 140 (upd (A 140) ((o + bk) % 40) (nI i))) 141 (upd (A 141) ((o + bk) % 40) (nI j))) 142 (upd (A 142) ((o + bk) % 40) (atF (A 136) (G 0) M i j))) 143 (upd (A 143) ((o + bk) % 40) v)) Q G J) := hD
    refine lv_aload_n hx hb dX0_take_105 rfl (lv_at hl 2 rfl) ?_
    refine va_get (D := (dC, dI)) (ci := 0) (v := .ref (h 101)) (C := RX0) (T := TX0) (N := 8) hx hb hts hinX0 hown hK hP 0 rfl rfl 0 (by decide) (hts (.fieldLink RX0 32 "MixedWords$Acts" "mix" "LMixedWords$Mix;") (by decide +kernel)) (fun _ h9 => h9) rfl dX0_take_106 ?_
    refine lv_iload_n hx hb dX0_take_109 rfl (lv_at hl 3 rfl) ?_
    refine lv_iload_n hx hb dX0_take_110 rfl (lv_at hl 4 rfl) ?_
    refine lv_iload_n hx hb dX0_take_111 rfl (lv_at hl 5 rfl) ?_
    refine xj_v (wc := (wMix h cs (va_up (va_up I 145 (nI (bk + 1))) 146 (nI 0)) L (va_up (va_up (va_up (va_up A 140 (upd (A 140) ((o + bk) % 40) (nI i))) 141 (upd (A 141) ((o + bk) % 40) (nI j))) 142 (upd (A 142) ((o + bk) % 40) (atF (A 136) (G 0) M i j))) 143 (upd (A 143) ((o + bk) % 40) v)) Q G J)) (wr := [(h 102, .inr (0, [.ref (h 101), .ref (h 140), .ref (h 141), .ref (h 142), .ref (h 143), .int (I 144), .int (nI (bk + 1)), .int (nI 0)])), (h 140, .inl (cs 0, 40, .inl (upd (A 140) ((o + bk) % 40) (nI i)))), (h 141, .inl (cs 0, 40, .inl (upd (A 141) ((o + bk) % 40) (nI j)))), (h 142, .inl (cs 0, 40, .inl (upd (A 142) ((o + bk) % 40) (atF (A 136) (G 0) M i j)))), (h 143, .inl (cs 0, 40, .inl (upd (A 143) ((o + bk) % 40) v)))]) hP hD hS hA [5, 6, 7, 8, 9, 10, 11, 12] [0, 1, 2, 3, 4] rfl rfl (by decide +kernel) (by decide +kernel) (va_runV (As := [.int (nI i), .int (nI j), .int v]) (rest := []) ⟨hx, hb, hml, hown, hts⟩ (k_X3_put l dC dI h cs H.size (va_up (va_up I 145 (nI (bk + 1))) 146 (nI 0)) L (va_up (va_up (va_up (va_up A 140 (upd (A 140) ((o + bk) % 40) (nI i))) 141 (upd (A 141) ((o + bk) % 40) (nI j))) 142 (upd (A 142) ((o + bk) % 40) (atF (A 136) (G 0) M i j))) 143 (upd (A 143) ((o + bk) % 40) v)) Q G J i j v M sp9 (by first | assumption | omega | exact hi) (by first | assumption | omega | exact hj) hM (by first | assumption | omega | exact hM1) (by first | assumption | omega | exact hM4) hst (by first | assumption | omega | exact hst2)) (cwV 3 hts gX0_take_X3_put rfl rfl rfl (by decide +kernel) ⟨Nat.le_of_ble_eq_true rfl, Nat.le_of_ble_eq_true rfl⟩) (xpV (wc := (wMix h cs (va_up (va_up I 145 (nI (bk + 1))) 146 (nI 0)) L (va_up (va_up (va_up (va_up A 140 (upd (A 140) ((o + bk) % 40) (nI i))) 141 (upd (A 141) ((o + bk) % 40) (nI j))) 142 (upd (A 142) ((o + bk) % 40) (atF (A 136) (G 0) M i j))) 143 (upd (A 143) ((o + bk) % 40) v)) Q G J)) hP hD hK hN [5, 6, 7, 8, 9, 10, 11, 12] rfl (by decide) 5 (ci := 3) rfl rfl _) rfl rfl hl.1 rfl (lv_room (Nat.le_of_ble_eq_true rfl)) dX0_take_112 ⟨Nat.zero_le _, Nat.zero_le _⟩) (fun u_5 H locs hw hP hD hS => ?_)
    obtain ⟨x123_7, f136_8, g0_9, hf_10, rfl⟩ := hw
    have hP : va_P (dC, dI) vwCl (wActs h cs (va_up (va_up (va_up I 145 (nI (bk + 1))) 146 (nI 0)) 123 x123_7) L (va_up (va_up (va_up (va_up (va_up A 140 (upd (A 140) ((o + bk) % 40) (nI i))) 141 (upd (A 141) ((o + bk) % 40) (nI j))) 142 (upd (A 142) ((o + bk) % 40) (atF (A 136) (G 0) M i j))) 143 (upd (A 143) ((o + bk) % 40) v)) 136 f136_8) Q (va_up G 0 g0_9) J) H := hP
    have hD : va_D A0 (wActs h cs (va_up (va_up (va_up I 145 (nI (bk + 1))) 146 (nI 0)) 123 x123_7) L (va_up (va_up (va_up (va_up (va_up A 140 (upd (A 140) ((o + bk) % 40) (nI i))) 141 (upd (A 141) ((o + bk) % 40) (nI j))) 142 (upd (A 142) ((o + bk) % 40) (atF (A 136) (G 0) M i j))) 143 (upd (A 143) ((o + bk) % 40) v)) 136 f136_8) Q (va_up G 0 g0_9) J) := hD
    obtain ⟨rfl, hput_11⟩ := hf_10
    refine lv_iload hx hb dX0_take_115 (lv_at hl 1 rfl) ?_
    exact xr_i (v := (atF (A 136) (G 0) M i j)) hx hb hr hlocks hK hS dX0_take_117 ((va_up (va_up (va_up (va_up I 123 (nI (sp9 + 1))) 144 (I 144)) 145 (nI (bk + 1))) 146 (nI 0)), L, (va_up (va_up (va_up (va_up (va_up A 136 f136_8) 140 (upd (A 140) ((o + bk) % 40) (nI i))) 141 (upd (A 141) ((o + bk) % 40) (nI j))) 142 (upd (A 142) ((o + bk) % 40) (atF (A 136) (G 0) M i j))) 143 (upd (A 143) ((o + bk) % 40) v)), Q, (va_up G 0 g0_9), J) ⟨(nI (sp9 + 1)), f136_8, g0_9, (I 144), (nI (bk + 1)), (nI 0), (upd (A 140) ((o + bk) % 40) (nI i)), (upd (A 141) ((o + bk) % 40) (nI j)), (upd (A 142) ((o + bk) % 40) (atF (A 136) (G 0) M i j)), (upd (A 143) ((o + bk) % 40) v), ⟨rfl, rfl, hput_11, o, bk, Or.inl ⟨by omega, rfl, rfl⟩, by first | rfl | assumption, rfl, rfl, rfl, rfl, rfl, rfl⟩, rfl⟩ hP hD
  · skip
    refine lv_aload_n hx hb dX0_take_20 rfl (lv_at hl 1 rfl) ?_
    refine lv_aload_n hx hb dX0_take_21 rfl (lv_at hl 1 rfl) ?_
    refine va_get (D := (dC, dI)) (ci := 0) (v := .int (I 144)) (C := RX0) (T := TX0) (N := 8) hx hb hts hinX0 hown hK hP 0 rfl rfl 5 (by decide) (hts (.fieldLink RX0 22 "MixedWords$Acts" "oldest" "I") (by decide +kernel)) (fun _ h9 => h9) rfl dX0_take_22 ?_
    refine xt_i (y := nI o) (ho) ?_
    refine lv_iconst (v := nI 1) hx hb dX0_take_25 (by decide) ?_
    refine lv_iadd hx hb dX0_take_26 ?_
    refine xt_i (y := nI (o + 1)) (nI_add _ _) ?_
    refine lv_bipush (v := nI 40) hx hb dX0_take_27 (by decide) ?_
    refine lv_irem hx hb dX0_take_29 (nI_ne0 (by omega) (by omega)) ?_
    refine xt_i (y := nI ((o + 1) % 40)) (pk_rem (by omega) (by omega) (by omega)) ?_
    refine va_put (D := (dC, dI)) (ci := 0) (v := .int (nI ((o + 1) % 40))) (ty := .int) (C := RX0) (T := TX0) (N := 8) hx hb hts hinX0 tyX0 tyX0_ok nmX0 hown hK hP hD hS 0 rfl rfl 5 (by decide) (hts (.fieldLink RX0 22 "MixedWords$Acts" "oldest" "I") (by decide +kernel)) (fun _ h9 => h9) rfl (by decide +kernel) rfl rfl (Nat.le_of_ble_eq_true rfl) dX0_take_30 (fun H locs hP hD hS => ?_)
    have hP : va_P (dC, dI) vwCl (wActs h cs (va_up I 144 (nI ((o + 1) % 40))) L A Q G J) H := hP
    have hD : va_D A0 (wActs h cs (va_up I 144 (nI ((o + 1) % 40))) L A Q G J) := hD
    refine lv_aload_n hx hb dX0_take_33 rfl (lv_at hl 1 rfl) ?_
    refine lv_dup hx hb dX0_take_34 rfl ?_
    refine va_get (D := (dC, dI)) (ci := 0) (v := .int (I 145)) (C := RX0) (T := TX0) (N := 8) hx hb hts hinX0 hown hK hP 0 rfl rfl 6 (by decide) (hts (.fieldLink RX0 26 "MixedWords$Acts" "back" "I") (by decide +kernel)) (fun _ h9 => h9) rfl dX0_take_35 ?_
    refine xt_i (y := nI bk) (hbk) ?_
    refine lv_iconst (v := nI 1) hx hb dX0_take_38 (by decide) ?_
    refine lv_isub hx hb dX0_take_39 ?_
    refine xt_i (y := nI (bk - 1)) (pk_sub (by omega)) ?_
    refine va_put (D := (dC, dI)) (ci := 0) (v := .int (nI (bk - 1))) (ty := .int) (C := RX0) (T := TX0) (N := 8) hx hb hts hinX0 tyX0 tyX0_ok nmX0 hown hK hP hD hS 0 rfl rfl 6 (by decide) (hts (.fieldLink RX0 26 "MixedWords$Acts" "back" "I") (by decide +kernel)) (fun _ h9 => h9) rfl (by decide +kernel) rfl rfl (Nat.le_of_ble_eq_true rfl) dX0_take_40 (fun H locs hP hD hS => ?_)
    have hP : va_P (dC, dI) vwCl (wActs h cs (va_up (va_up I 144 (nI ((o + 1) % 40))) 145 (nI (bk - 1))) L A Q G J) H := hP
    have hD : va_D A0 (wActs h cs (va_up (va_up I 144 (nI ((o + 1) % 40))) 145 (nI (bk - 1))) L A Q G J) := hD
    refine lv_aload_n hx hb dX0_take_43 rfl (lv_at hl 1 rfl) ?_
    refine va_get (D := (dC, dI)) (ci := 0) (v := .int (nI ((o + 1) % 40))) (C := RX0) (T := TX0) (N := 8) hx hb hts hinX0 hown hK hP 0 rfl rfl 5 (by decide) (hts (.fieldLink RX0 22 "MixedWords$Acts" "oldest" "I") (by decide +kernel)) (fun _ h9 => h9) rfl dX0_take_44 ?_
    refine lv_aload_n hx hb dX0_take_47 rfl (lv_at hl 1 rfl) ?_
    refine va_get (D := (dC, dI)) (ci := 0) (v := .int (nI (bk - 1))) (C := RX0) (T := TX0) (N := 8) hx hb hts hinX0 hown hK hP 0 rfl rfl 6 (by decide) (hts (.fieldLink RX0 26 "MixedWords$Acts" "back" "I") (by decide +kernel)) (fun _ h9 => h9) rfl dX0_take_48 ?_
    refine lv_iadd hx hb dX0_take_51 ?_
    refine xt_i (y := nI (((o + 1) % 40) + (bk - 1))) (nI_add _ _) ?_
    refine lv_bipush (v := nI 40) hx hb dX0_take_52 (by decide) ?_
    refine lv_irem hx hb dX0_take_54 (nI_ne0 (by omega) (by omega)) ?_
    refine xt_i (y := nI ((((o + 1) % 40) + (bk - 1)) % 40)) (pk_rem (by omega) (by omega) (by omega)) ?_
    refine lv_istore (lv' := [(5, .int (nI ((((o + 1) % 40) + (bk - 1)) % 40))), (4, .int (atF (A 136) (G 0) M i j)), (0, .ref (h 102)), (1, .int (nI i)), (2, .int (nI j)), (3, .int v)]) hx hb dX0_take_55 hl (by decide) rfl (fun ls hl => ?_)
    refine lv_aload_n hx hb dX0_take_57 rfl (lv_at hl 2 rfl) ?_
    refine va_get (D := (dC, dI)) (ci := 0) (v := .ref (h 140)) (C := RX0) (T := TX0) (N := 8) hx hb hts hinX0 hown hK hP 0 rfl rfl 1 (by decide) (hts (.fieldLink RX0 9 "MixedWords$Acts" "rowOf" "[I") (by decide +kernel)) (fun _ h9 => h9) rfl dX0_take_58 ?_
    refine lv_iload hx hb dX0_take_61 (lv_at hl 0 rfl) ?_
    refine lv_iload_n hx hb dX0_take_63 rfl (lv_at hl 3 rfl) ?_
    refine xa_iast hx hb hK hP hD hS 1 0 rfl rfl (by omega) (by decide) dX0_take_64 (fun H locs hP hD hS => ?_)
    have hP : va_P (dC, dI) vwCl (wActs h cs (va_up (va_up I 144 (nI ((o + 1) % 40))) 145 (nI (bk - 1))) L (va_up A 140 (upd (A 140) ((((o + 1) % 40) + (bk - 1)) % 40) (nI i))) Q G J) H := hP
    have hD : va_D A0 (wActs h cs (va_up (va_up I 144 (nI ((o + 1) % 40))) 145 (nI (bk - 1))) L (va_up A 140 (upd (A 140) ((((o + 1) % 40) + (bk - 1)) % 40) (nI i))) Q G J) := hD
    refine lv_aload_n hx hb dX0_take_65 rfl (lv_at hl 2 rfl) ?_
    refine va_get (D := (dC, dI)) (ci := 0) (v := .ref (h 141)) (C := RX0) (T := TX0) (N := 8) hx hb hts hinX0 hown hK hP 0 rfl rfl 2 (by decide) (hts (.fieldLink RX0 13 "MixedWords$Acts" "columnOf" "[I") (by decide +kernel)) (fun _ h9 => h9) rfl dX0_take_66 ?_
    refine lv_iload hx hb dX0_take_69 (lv_at hl 0 rfl) ?_
    refine lv_iload_n hx hb dX0_take_71 rfl (lv_at hl 4 rfl) ?_
    refine xa_iast hx hb hK hP hD hS 2 0 rfl rfl (by omega) (by decide) dX0_take_72 (fun H locs hP hD hS => ?_)
    have hP : va_P (dC, dI) vwCl (wActs h cs (va_up (va_up I 144 (nI ((o + 1) % 40))) 145 (nI (bk - 1))) L (va_up (va_up A 140 (upd (A 140) ((((o + 1) % 40) + (bk - 1)) % 40) (nI i))) 141 (upd (A 141) ((((o + 1) % 40) + (bk - 1)) % 40) (nI j))) Q G J) H := hP
    have hD : va_D A0 (wActs h cs (va_up (va_up I 144 (nI ((o + 1) % 40))) 145 (nI (bk - 1))) L (va_up (va_up A 140 (upd (A 140) ((((o + 1) % 40) + (bk - 1)) % 40) (nI i))) 141 (upd (A 141) ((((o + 1) % 40) + (bk - 1)) % 40) (nI j))) Q G J) := hD
    refine lv_aload_n hx hb dX0_take_73 rfl (lv_at hl 2 rfl) ?_
    refine va_get (D := (dC, dI)) (ci := 0) (v := .ref (h 142)) (C := RX0) (T := TX0) (N := 8) hx hb hts hinX0 hown hK hP 0 rfl rfl 3 (by decide) (hts (.fieldLink RX0 16 "MixedWords$Acts" "before" "[I") (by decide +kernel)) (fun _ h9 => h9) rfl dX0_take_74 ?_
    refine lv_iload hx hb dX0_take_77 (lv_at hl 0 rfl) ?_
    refine lv_iload hx hb dX0_take_79 (lv_at hl 1 rfl) ?_
    refine xa_iast hx hb hK hP hD hS 3 0 rfl rfl (by omega) (by decide) dX0_take_81 (fun H locs hP hD hS => ?_)
    have hP : va_P (dC, dI) vwCl (wActs h cs (va_up (va_up I 144 (nI ((o + 1) % 40))) 145 (nI (bk - 1))) L (va_up (va_up (va_up A 140 (upd (A 140) ((((o + 1) % 40) + (bk - 1)) % 40) (nI i))) 141 (upd (A 141) ((((o + 1) % 40) + (bk - 1)) % 40) (nI j))) 142 (upd (A 142) ((((o + 1) % 40) + (bk - 1)) % 40) (atF (A 136) (G 0) M i j))) Q G J) H := hP
    have hD : va_D A0 (wActs h cs (va_up (va_up I 144 (nI ((o + 1) % 40))) 145 (nI (bk - 1))) L (va_up (va_up (va_up A 140 (upd (A 140) ((((o + 1) % 40) + (bk - 1)) % 40) (nI i))) 141 (upd (A 141) ((((o + 1) % 40) + (bk - 1)) % 40) (nI j))) 142 (upd (A 142) ((((o + 1) % 40) + (bk - 1)) % 40) (atF (A 136) (G 0) M i j))) Q G J) := hD
    refine lv_aload_n hx hb dX0_take_82 rfl (lv_at hl 2 rfl) ?_
    refine va_get (D := (dC, dI)) (ci := 0) (v := .ref (h 143)) (C := RX0) (T := TX0) (N := 8) hx hb hts hinX0 hown hK hP 0 rfl rfl 4 (by decide) (hts (.fieldLink RX0 19 "MixedWords$Acts" "after" "[I") (by decide +kernel)) (fun _ h9 => h9) rfl dX0_take_83 ?_
    refine lv_iload hx hb dX0_take_86 (lv_at hl 0 rfl) ?_
    refine lv_iload_n hx hb dX0_take_88 rfl (lv_at hl 5 rfl) ?_
    refine xa_iast hx hb hK hP hD hS 4 0 rfl rfl (by omega) (by decide) dX0_take_89 (fun H locs hP hD hS => ?_)
    have hP : va_P (dC, dI) vwCl (wActs h cs (va_up (va_up I 144 (nI ((o + 1) % 40))) 145 (nI (bk - 1))) L (va_up (va_up (va_up (va_up A 140 (upd (A 140) ((((o + 1) % 40) + (bk - 1)) % 40) (nI i))) 141 (upd (A 141) ((((o + 1) % 40) + (bk - 1)) % 40) (nI j))) 142 (upd (A 142) ((((o + 1) % 40) + (bk - 1)) % 40) (atF (A 136) (G 0) M i j))) 143 (upd (A 143) ((((o + 1) % 40) + (bk - 1)) % 40) v)) Q G J) H := hP
    have hD : va_D A0 (wActs h cs (va_up (va_up I 144 (nI ((o + 1) % 40))) 145 (nI (bk - 1))) L (va_up (va_up (va_up (va_up A 140 (upd (A 140) ((((o + 1) % 40) + (bk - 1)) % 40) (nI i))) 141 (upd (A 141) ((((o + 1) % 40) + (bk - 1)) % 40) (nI j))) 142 (upd (A 142) ((((o + 1) % 40) + (bk - 1)) % 40) (atF (A 136) (G 0) M i j))) 143 (upd (A 143) ((((o + 1) % 40) + (bk - 1)) % 40) v)) Q G J) := hD
    refine lv_aload_n hx hb dX0_take_90 rfl (lv_at hl 2 rfl) ?_
    refine lv_dup hx hb dX0_take_91 rfl ?_
    refine va_get (D := (dC, dI)) (ci := 0) (v := .int (nI (bk - 1))) (C := RX0) (T := TX0) (N := 8) hx hb hts hinX0 hown hK hP 0 rfl rfl 6 (by decide) (hts (.fieldLink RX0 26 "MixedWords$Acts" "back" "I") (by decide +kernel)) (fun _ h9 => h9) rfl dX0_take_92 ?_
    refine lv_iconst (v := nI 1) hx hb dX0_take_95 (by decide) ?_
    refine lv_iadd hx hb dX0_take_96 ?_
    refine xt_i (y := nI ((bk - 1) + 1)) (nI_add _ _) ?_
    refine va_put (D := (dC, dI)) (ci := 0) (v := .int (nI ((bk - 1) + 1))) (ty := .int) (C := RX0) (T := TX0) (N := 8) hx hb hts hinX0 tyX0 tyX0_ok nmX0 hown hK hP hD hS 0 rfl rfl 6 (by decide) (hts (.fieldLink RX0 26 "MixedWords$Acts" "back" "I") (by decide +kernel)) (fun _ h9 => h9) rfl (by decide +kernel) rfl rfl (Nat.le_of_ble_eq_true rfl) dX0_take_97 (fun H locs hP hD hS => ?_)
    have hP : va_P (dC, dI) vwCl (wActs h cs (va_up (va_up I 144 (nI ((o + 1) % 40))) 145 (nI ((bk - 1) + 1))) L (va_up (va_up (va_up (va_up A 140 (upd (A 140) ((((o + 1) % 40) + (bk - 1)) % 40) (nI i))) 141 (upd (A 141) ((((o + 1) % 40) + (bk - 1)) % 40) (nI j))) 142 (upd (A 142) ((((o + 1) % 40) + (bk - 1)) % 40) (atF (A 136) (G 0) M i j))) 143 (upd (A 143) ((((o + 1) % 40) + (bk - 1)) % 40) v)) Q G J) H := hP
    have hD : va_D A0 (wActs h cs (va_up (va_up I 144 (nI ((o + 1) % 40))) 145 (nI ((bk - 1) + 1))) L (va_up (va_up (va_up (va_up A 140 (upd (A 140) ((((o + 1) % 40) + (bk - 1)) % 40) (nI i))) 141 (upd (A 141) ((((o + 1) % 40) + (bk - 1)) % 40) (nI j))) 142 (upd (A 142) ((((o + 1) % 40) + (bk - 1)) % 40) (atF (A 136) (G 0) M i j))) 143 (upd (A 143) ((((o + 1) % 40) + (bk - 1)) % 40) v)) Q G J) := hD
    refine lv_aload_n hx hb dX0_take_100 rfl (lv_at hl 2 rfl) ?_
    refine lv_iconst (v := nI 0) hx hb dX0_take_101 (by decide) ?_
    refine va_put (D := (dC, dI)) (ci := 0) (v := .int (nI 0)) (ty := .int) (C := RX0) (T := TX0) (N := 8) hx hb hts hinX0 tyX0 tyX0_ok nmX0 hown hK hP hD hS 0 rfl rfl 7 (by decide) (hts (.fieldLink RX0 29 "MixedWords$Acts" "on" "I") (by decide +kernel)) (fun _ h9 => h9) rfl (by decide +kernel) rfl rfl (Nat.le_of_ble_eq_true rfl) dX0_take_102 (fun H locs hP hD hS => ?_)
    have hP : va_P (dC, dI) vwCl (wActs h cs (va_up (va_up (va_up I 144 (nI ((o + 1) % 40))) 145 (nI ((bk - 1) + 1))) 146 (nI 0)) L (va_up (va_up (va_up (va_up A 140 (upd (A 140) ((((o + 1) % 40) + (bk - 1)) % 40) (nI i))) 141 (upd (A 141) ((((o + 1) % 40) + (bk - 1)) % 40) (nI j))) 142 (upd (A 142) ((((o + 1) % 40) + (bk - 1)) % 40) (atF (A 136) (G 0) M i j))) 143 (upd (A 143) ((((o + 1) % 40) + (bk - 1)) % 40) v)) Q G J) H := hP
    have hD : va_D A0 (wActs h cs (va_up (va_up (va_up I 144 (nI ((o + 1) % 40))) 145 (nI ((bk - 1) + 1))) 146 (nI 0)) L (va_up (va_up (va_up (va_up A 140 (upd (A 140) ((((o + 1) % 40) + (bk - 1)) % 40) (nI i))) 141 (upd (A 141) ((((o + 1) % 40) + (bk - 1)) % 40) (nI j))) 142 (upd (A 142) ((((o + 1) % 40) + (bk - 1)) % 40) (atF (A 136) (G 0) M i j))) 143 (upd (A 143) ((((o + 1) % 40) + (bk - 1)) % 40) v)) Q G J) := hD
    refine lv_aload_n hx hb dX0_take_105 rfl (lv_at hl 2 rfl) ?_
    refine va_get (D := (dC, dI)) (ci := 0) (v := .ref (h 101)) (C := RX0) (T := TX0) (N := 8) hx hb hts hinX0 hown hK hP 0 rfl rfl 0 (by decide) (hts (.fieldLink RX0 32 "MixedWords$Acts" "mix" "LMixedWords$Mix;") (by decide +kernel)) (fun _ h9 => h9) rfl dX0_take_106 ?_
    refine lv_iload_n hx hb dX0_take_109 rfl (lv_at hl 3 rfl) ?_
    refine lv_iload_n hx hb dX0_take_110 rfl (lv_at hl 4 rfl) ?_
    refine lv_iload_n hx hb dX0_take_111 rfl (lv_at hl 5 rfl) ?_
    refine xj_v (wc := (wMix h cs (va_up (va_up (va_up I 144 (nI ((o + 1) % 40))) 145 (nI ((bk - 1) + 1))) 146 (nI 0)) L (va_up (va_up (va_up (va_up A 140 (upd (A 140) ((((o + 1) % 40) + (bk - 1)) % 40) (nI i))) 141 (upd (A 141) ((((o + 1) % 40) + (bk - 1)) % 40) (nI j))) 142 (upd (A 142) ((((o + 1) % 40) + (bk - 1)) % 40) (atF (A 136) (G 0) M i j))) 143 (upd (A 143) ((((o + 1) % 40) + (bk - 1)) % 40) v)) Q G J)) (wr := [(h 102, .inr (0, [.ref (h 101), .ref (h 140), .ref (h 141), .ref (h 142), .ref (h 143), .int (nI ((o + 1) % 40)), .int (nI ((bk - 1) + 1)), .int (nI 0)])), (h 140, .inl (cs 0, 40, .inl (upd (A 140) ((((o + 1) % 40) + (bk - 1)) % 40) (nI i)))), (h 141, .inl (cs 0, 40, .inl (upd (A 141) ((((o + 1) % 40) + (bk - 1)) % 40) (nI j)))), (h 142, .inl (cs 0, 40, .inl (upd (A 142) ((((o + 1) % 40) + (bk - 1)) % 40) (atF (A 136) (G 0) M i j)))), (h 143, .inl (cs 0, 40, .inl (upd (A 143) ((((o + 1) % 40) + (bk - 1)) % 40) v)))]) hP hD hS hA [5, 6, 7, 8, 9, 10, 11, 12] [0, 1, 2, 3, 4] rfl rfl (by decide +kernel) (by decide +kernel) (va_runV (As := [.int (nI i), .int (nI j), .int v]) (rest := []) ⟨hx, hb, hml, hown, hts⟩ (k_X3_put l dC dI h cs H.size (va_up (va_up (va_up I 144 (nI ((o + 1) % 40))) 145 (nI ((bk - 1) + 1))) 146 (nI 0)) L (va_up (va_up (va_up (va_up A 140 (upd (A 140) ((((o + 1) % 40) + (bk - 1)) % 40) (nI i))) 141 (upd (A 141) ((((o + 1) % 40) + (bk - 1)) % 40) (nI j))) 142 (upd (A 142) ((((o + 1) % 40) + (bk - 1)) % 40) (atF (A 136) (G 0) M i j))) 143 (upd (A 143) ((((o + 1) % 40) + (bk - 1)) % 40) v)) Q G J i j v M sp9 (by first | assumption | omega | exact hi) (by first | assumption | omega | exact hj) hM (by first | assumption | omega | exact hM1) (by first | assumption | omega | exact hM4) hst (by first | assumption | omega | exact hst2)) (cwV 3 hts gX0_take_X3_put rfl rfl rfl (by decide +kernel) ⟨Nat.le_of_ble_eq_true rfl, Nat.le_of_ble_eq_true rfl⟩) (xpV (wc := (wMix h cs (va_up (va_up (va_up I 144 (nI ((o + 1) % 40))) 145 (nI ((bk - 1) + 1))) 146 (nI 0)) L (va_up (va_up (va_up (va_up A 140 (upd (A 140) ((((o + 1) % 40) + (bk - 1)) % 40) (nI i))) 141 (upd (A 141) ((((o + 1) % 40) + (bk - 1)) % 40) (nI j))) 142 (upd (A 142) ((((o + 1) % 40) + (bk - 1)) % 40) (atF (A 136) (G 0) M i j))) 143 (upd (A 143) ((((o + 1) % 40) + (bk - 1)) % 40) v)) Q G J)) hP hD hK hN [5, 6, 7, 8, 9, 10, 11, 12] rfl (by decide) 5 (ci := 3) rfl rfl _) rfl rfl hl.1 rfl (lv_room (Nat.le_of_ble_eq_true rfl)) dX0_take_112 ⟨Nat.zero_le _, Nat.zero_le _⟩) (fun u_12 H locs hw hP hD hS => ?_)
    obtain ⟨x123_14, f136_15, g0_16, hf_17, rfl⟩ := hw
    have hP : va_P (dC, dI) vwCl (wActs h cs (va_up (va_up (va_up (va_up I 144 (nI ((o + 1) % 40))) 145 (nI ((bk - 1) + 1))) 146 (nI 0)) 123 x123_14) L (va_up (va_up (va_up (va_up (va_up A 140 (upd (A 140) ((((o + 1) % 40) + (bk - 1)) % 40) (nI i))) 141 (upd (A 141) ((((o + 1) % 40) + (bk - 1)) % 40) (nI j))) 142 (upd (A 142) ((((o + 1) % 40) + (bk - 1)) % 40) (atF (A 136) (G 0) M i j))) 143 (upd (A 143) ((((o + 1) % 40) + (bk - 1)) % 40) v)) 136 f136_15) Q (va_up G 0 g0_16) J) H := hP
    have hD : va_D A0 (wActs h cs (va_up (va_up (va_up (va_up I 144 (nI ((o + 1) % 40))) 145 (nI ((bk - 1) + 1))) 146 (nI 0)) 123 x123_14) L (va_up (va_up (va_up (va_up (va_up A 140 (upd (A 140) ((((o + 1) % 40) + (bk - 1)) % 40) (nI i))) 141 (upd (A 141) ((((o + 1) % 40) + (bk - 1)) % 40) (nI j))) 142 (upd (A 142) ((((o + 1) % 40) + (bk - 1)) % 40) (atF (A 136) (G 0) M i j))) 143 (upd (A 143) ((((o + 1) % 40) + (bk - 1)) % 40) v)) 136 f136_15) Q (va_up G 0 g0_16) J) := hD
    obtain ⟨rfl, hput_18⟩ := hf_17
    refine lv_iload hx hb dX0_take_115 (lv_at hl 1 rfl) ?_
    exact xr_i (v := (atF (A 136) (G 0) M i j)) hx hb hr hlocks hK hS dX0_take_117 ((va_up (va_up (va_up (va_up I 123 (nI (sp9 + 1))) 144 (nI ((o + 1) % 40))) 145 (nI ((bk - 1) + 1))) 146 (nI 0)), L, (va_up (va_up (va_up (va_up (va_up A 136 f136_15) 140 (upd (A 140) ((((o + 1) % 40) + (bk - 1)) % 40) (nI i))) 141 (upd (A 141) ((((o + 1) % 40) + (bk - 1)) % 40) (nI j))) 142 (upd (A 142) ((((o + 1) % 40) + (bk - 1)) % 40) (atF (A 136) (G 0) M i j))) 143 (upd (A 143) ((((o + 1) % 40) + (bk - 1)) % 40) v)), Q, (va_up G 0 g0_16), J) ⟨(nI (sp9 + 1)), f136_15, g0_16, (nI ((o + 1) % 40)), (nI ((bk - 1) + 1)), (nI 0), (upd (A 140) ((((o + 1) % 40) + (bk - 1)) % 40) (nI i)), (upd (A 141) ((((o + 1) % 40) + (bk - 1)) % 40) (nI j)), (upd (A 142) ((((o + 1) % 40) + (bk - 1)) % 40) (atF (A 136) (G 0) M i j)), (upd (A 143) ((((o + 1) % 40) + (bk - 1)) % 40) v), ⟨rfl, rfl, hput_18, (o + 1) % 40, 39, Or.inr ⟨by omega, rfl, rfl⟩, rfl, by rw [show bk - 1 + 1 = 39 + 1 by omega], rfl, by rw [show bk - 1 = 39 by omega], by rw [show bk - 1 = 39 by omega], by rw [show bk - 1 = 39 by omega], by rw [show bk - 1 = 39 by omega]⟩, rfl⟩ hP hD
set_option maxRecDepth 20000 in
theorem ggX0_goBack_X3_put : GoodIn wsX0_goBack wsX3_put := goodIn_r _ [12, 13, 14, 15, 16, 25, 26, 27, 28, 29, 30] rfl (by decide +kernel)
set_option maxRecDepth 20000 in
theorem gX0_goBack_X3_put : GoodIn wsX0_goBack (wsV RX0 42 RX3 yX3_put wsX3_put) := goodIn_app (goodIn_of _ (by decide +kernel)) ggX0_goBack_X3_put
theorem bdX0_goBack_0 : (decode cX0_goBack 0 = .ok (.aload_n 0, 1)) ∧ (decode cX0_goBack 1 = .ok (.dup, 1)) ∧ (decode cX0_goBack 2 = .ok (.getfield 26, 3)) ∧ (decode cX0_goBack 5 = .ok (.iconst 1, 1)) ∧ (decode cX0_goBack 6 = .ok (.isub, 1)) ∧ (decode cX0_goBack 7 = .ok (.putfield 26, 3)) ∧ (decode cX0_goBack 10 = .ok (.aload_n 0, 1)) ∧ (decode cX0_goBack 11 = .ok (.dup, 1)) ∧ (decode cX0_goBack 12 = .ok (.getfield 29, 3)) ∧ (decode cX0_goBack 15 = .ok (.iconst 1, 1)) ∧ (decode cX0_goBack 16 = .ok (.iadd, 1)) ∧ (decode cX0_goBack 17 = .ok (.putfield 29, 3)) ∧ (decode cX0_goBack 20 = .ok (.aload_n 0, 1)) ∧ (decode cX0_goBack 21 = .ok (.getfield 22, 3)) ∧ (decode cX0_goBack 24 = .ok (.aload_n 0, 1)) ∧ (decode cX0_goBack 25 = .ok (.getfield 26, 3)) := by decide +kernel
theorem dX0_goBack_0 : decode cX0_goBack 0 = .ok (.aload_n 0, 1) := bdX0_goBack_0.1
theorem dX0_goBack_1 : decode cX0_goBack 1 = .ok (.dup, 1) := bdX0_goBack_0.2.1
theorem dX0_goBack_2 : decode cX0_goBack 2 = .ok (.getfield 26, 3) := bdX0_goBack_0.2.2.1
theorem dX0_goBack_5 : decode cX0_goBack 5 = .ok (.iconst 1, 1) := bdX0_goBack_0.2.2.2.1
theorem dX0_goBack_6 : decode cX0_goBack 6 = .ok (.isub, 1) := bdX0_goBack_0.2.2.2.2.1
theorem dX0_goBack_7 : decode cX0_goBack 7 = .ok (.putfield 26, 3) := bdX0_goBack_0.2.2.2.2.2.1
theorem dX0_goBack_10 : decode cX0_goBack 10 = .ok (.aload_n 0, 1) := bdX0_goBack_0.2.2.2.2.2.2.1
theorem dX0_goBack_11 : decode cX0_goBack 11 = .ok (.dup, 1) := bdX0_goBack_0.2.2.2.2.2.2.2.1
theorem dX0_goBack_12 : decode cX0_goBack 12 = .ok (.getfield 29, 3) := bdX0_goBack_0.2.2.2.2.2.2.2.2.1
theorem dX0_goBack_15 : decode cX0_goBack 15 = .ok (.iconst 1, 1) := bdX0_goBack_0.2.2.2.2.2.2.2.2.2.1
theorem dX0_goBack_16 : decode cX0_goBack 16 = .ok (.iadd, 1) := bdX0_goBack_0.2.2.2.2.2.2.2.2.2.2.1
theorem dX0_goBack_17 : decode cX0_goBack 17 = .ok (.putfield 29, 3) := bdX0_goBack_0.2.2.2.2.2.2.2.2.2.2.2.1
theorem dX0_goBack_20 : decode cX0_goBack 20 = .ok (.aload_n 0, 1) := bdX0_goBack_0.2.2.2.2.2.2.2.2.2.2.2.2.1
theorem dX0_goBack_21 : decode cX0_goBack 21 = .ok (.getfield 22, 3) := bdX0_goBack_0.2.2.2.2.2.2.2.2.2.2.2.2.2.1
theorem dX0_goBack_24 : decode cX0_goBack 24 = .ok (.aload_n 0, 1) := bdX0_goBack_0.2.2.2.2.2.2.2.2.2.2.2.2.2.2.1
theorem dX0_goBack_25 : decode cX0_goBack 25 = .ok (.getfield 26, 3) := bdX0_goBack_0.2.2.2.2.2.2.2.2.2.2.2.2.2.2.2
theorem bdX0_goBack_28 : (decode cX0_goBack 28 = .ok (.iadd, 1)) ∧ (decode cX0_goBack 29 = .ok (.bipush 40, 2)) ∧ (decode cX0_goBack 31 = .ok (.irem, 1)) ∧ (decode cX0_goBack 32 = .ok (.istore_n 1, 1)) ∧ (decode cX0_goBack 33 = .ok (.aload_n 0, 1)) ∧ (decode cX0_goBack 34 = .ok (.getfield 32, 3)) ∧ (decode cX0_goBack 37 = .ok (.aload_n 0, 1)) ∧ (decode cX0_goBack 38 = .ok (.getfield 9, 3)) ∧ (decode cX0_goBack 41 = .ok (.iload_n 1, 1)) ∧ (decode cX0_goBack 42 = .ok (.iaload, 1)) ∧ (decode cX0_goBack 43 = .ok (.aload_n 0, 1)) ∧ (decode cX0_goBack 44 = .ok (.getfield 13, 3)) ∧ (decode cX0_goBack 47 = .ok (.iload_n 1, 1)) ∧ (decode cX0_goBack 48 = .ok (.iaload, 1)) ∧ (decode cX0_goBack 49 = .ok (.aload_n 0, 1)) ∧ (decode cX0_goBack 50 = .ok (.getfield 16, 3)) := by decide +kernel
theorem dX0_goBack_28 : decode cX0_goBack 28 = .ok (.iadd, 1) := bdX0_goBack_28.1
theorem dX0_goBack_29 : decode cX0_goBack 29 = .ok (.bipush 40, 2) := bdX0_goBack_28.2.1
theorem dX0_goBack_31 : decode cX0_goBack 31 = .ok (.irem, 1) := bdX0_goBack_28.2.2.1
theorem dX0_goBack_32 : decode cX0_goBack 32 = .ok (.istore_n 1, 1) := bdX0_goBack_28.2.2.2.1
theorem dX0_goBack_33 : decode cX0_goBack 33 = .ok (.aload_n 0, 1) := bdX0_goBack_28.2.2.2.2.1
theorem dX0_goBack_34 : decode cX0_goBack 34 = .ok (.getfield 32, 3) := bdX0_goBack_28.2.2.2.2.2.1
theorem dX0_goBack_37 : decode cX0_goBack 37 = .ok (.aload_n 0, 1) := bdX0_goBack_28.2.2.2.2.2.2.1
theorem dX0_goBack_38 : decode cX0_goBack 38 = .ok (.getfield 9, 3) := bdX0_goBack_28.2.2.2.2.2.2.2.1
theorem dX0_goBack_41 : decode cX0_goBack 41 = .ok (.iload_n 1, 1) := bdX0_goBack_28.2.2.2.2.2.2.2.2.1
theorem dX0_goBack_42 : decode cX0_goBack 42 = .ok (.iaload, 1) := bdX0_goBack_28.2.2.2.2.2.2.2.2.2.1
theorem dX0_goBack_43 : decode cX0_goBack 43 = .ok (.aload_n 0, 1) := bdX0_goBack_28.2.2.2.2.2.2.2.2.2.2.1
theorem dX0_goBack_44 : decode cX0_goBack 44 = .ok (.getfield 13, 3) := bdX0_goBack_28.2.2.2.2.2.2.2.2.2.2.2.1
theorem dX0_goBack_47 : decode cX0_goBack 47 = .ok (.iload_n 1, 1) := bdX0_goBack_28.2.2.2.2.2.2.2.2.2.2.2.2.1
theorem dX0_goBack_48 : decode cX0_goBack 48 = .ok (.iaload, 1) := bdX0_goBack_28.2.2.2.2.2.2.2.2.2.2.2.2.2.1
theorem dX0_goBack_49 : decode cX0_goBack 49 = .ok (.aload_n 0, 1) := bdX0_goBack_28.2.2.2.2.2.2.2.2.2.2.2.2.2.2.1
theorem dX0_goBack_50 : decode cX0_goBack 50 = .ok (.getfield 16, 3) := bdX0_goBack_28.2.2.2.2.2.2.2.2.2.2.2.2.2.2.2
theorem bdX0_goBack_53 : (decode cX0_goBack 53 = .ok (.iload_n 1, 1)) ∧ (decode cX0_goBack 54 = .ok (.iaload, 1)) ∧ (decode cX0_goBack 55 = .ok (.invokevirtual 42, 3)) ∧ (decode cX0_goBack 58 = .ok (.aload_n 0, 1)) ∧ (decode cX0_goBack 59 = .ok (.getfield 26, 3)) ∧ (decode cX0_goBack 62 = .ok (.ireturn, 1)) := by decide +kernel
theorem dX0_goBack_53 : decode cX0_goBack 53 = .ok (.iload_n 1, 1) := bdX0_goBack_53.1
theorem dX0_goBack_54 : decode cX0_goBack 54 = .ok (.iaload, 1) := bdX0_goBack_53.2.1
theorem dX0_goBack_55 : decode cX0_goBack 55 = .ok (.invokevirtual 42, 3) := bdX0_goBack_53.2.2.1
theorem dX0_goBack_58 : decode cX0_goBack 58 = .ok (.aload_n 0, 1) := bdX0_goBack_53.2.2.2.1
theorem dX0_goBack_59 : decode cX0_goBack 59 = .ok (.getfield 26, 3) := bdX0_goBack_53.2.2.2.2.1
theorem dX0_goBack_62 : decode cX0_goBack 62 = .ok (.ireturn, 1) := bdX0_goBack_53.2.2.2.2.2
set_option maxHeartbeats 4000000 in
set_option maxRecDepth 100000 in
theorem k_X0_goBack (l : Launch) (dC : Nat → ClassId) (dI : Nat → Nat → Nat) (h : Nat → Nat) (cs : Nat → ClassId) (sz : Nat) (I : Nat → Int32) (L : Nat → Int64) (A : Nat → Nat → Int32) (Q : Nat → Nat → Int64) (G : Nat → Nat → Nat → Int32) (J : Nat → Nat → Nat → Int64) (M sp9 o bk on : Nat) (hM : I 121 = nI M) (hM1 : 1 ≤ M) (hM4 : M ≤ 4) (hst : I 123 = nI sp9) (hst2 : sp9 < 1000000000) (ho : I 144 = nI o) (ho4 : o < 40) (hbk : I 145 = nI bk) (hbk4 : bk ≤ 40) (hon : I 146 = nI on) (hon4 : bk + on ≤ 40) (hring : ∀ k : Nat, k < bk + on → ∃ i j : Nat, i < 5 ∧ j ≤ M ∧ A 140 ((o + k) % 40) = nI i ∧ A 141 ((o + k) % 40) = nI j) (hb0 : 0 < bk) : Met l yX0_goBack wsX0_goBack ({ frames := 1, cells := 0, slots := 0, locals := 23 }) (va_Pc [.ref (h 102)] (xPre (dC, dI) (wActs h cs I L A Q G J) (tysA cs) sz)) (va_Qi (fun (r : Int32) (u : CS) => ∃ x123 : Int32, ∃ f136 : Nat → Int32, ∃ g0 : Nat → Nat → Int32, ∃ x145 : Int32, ∃ x146 : Int32, (r = nI (bk - 1) ∧ x145 = nI (bk - 1) ∧ x146 = nI (on + 1) ∧ x123 = nI (sp9 + 1) ∧ ∃ i j : Nat, i < 5 ∧ j ≤ M ∧ A 140 ((o + (bk - 1)) % 40) = nI i ∧ A 141 ((o + (bk - 1)) % 40) = nI j ∧ putP M i j (A 142 ((o + (bk - 1)) % 40)) (A 136) (G 0) f136 g0) ∧ u = ((va_up (va_up (va_up I 123 x123) 145 x145) 146 x146), L, (va_up A 136 f136), Q, (va_up G 0 g0), J)) (xB (dC, dI) (tysA cs) (va_A (wActs h cs I L A Q G J) sz) (fun u : CS => wActs h cs u.1 u.2.1 u.2.2.1 u.2.2.2.1 u.2.2.2.2.1 u.2.2.2.2.2)) (va_A (wActs h cs I L A Q G J) sz)) 0 0 (va_A (wActs h cs I L A Q G J) sz) := by
  refine Met.ofW (cc := cX0_goBack) (maxL := 2) (ret := (some .int)) (by decide) rfl ?_
  intro p e s m args below meth c s₁ B hml hv
  obtain ⟨rfl, hsz, hP, hK, hD0, hN⟩ := hv
  have hx := B.exec
  have hb := B.bytes
  have hr := B.returns
  have hts := atoms_spec (ws := wsX0_goBack) B.pre
  have hown : s.vm.findClass RX0 = some m.cls := findClass_of_methodNamed B.named
  have hlocks := B.notSynchronized
  subst hsz
  have hD := hD0.self (sz := s.heap.size)
  generalize hAe : va_A (wActs h cs I L A Q G J) s.heap.size = A0 at hD ⊢
  have hA : ∀ q : Nat, s.heap.size ≤ q → A0 q := fun q h => by rw [← hAe]; exact Or.inr h
  have hl := lv_entry ([.ref (h 102)]) (n := 2) (Nat.le_of_ble_eq_true rfl)
  rw [lg_entry_eq]
  generalize (lg_sl ([.ref (h 102)]) ++ List.replicate (2 - (lg_sl ([.ref (h 102)])).length) Slot.unset).toArray = ls at hl ⊢
  have hl : lv_has ls 2 [(0, .ref (h 102))] := hl
  generalize hH : s.heap = H at hP ⊢
  have hS : va_S A0 s.heap H [] := by rw [← hH]; exact va_S.rf
  have hinX0 : ∀ w ∈ wsX00, w ∈ wsX0_goBack := by decide +kernel
  refine lv_aload_n hx hb dX0_goBack_0 rfl (lv_at hl 0 rfl) ?_
  refine lv_dup hx hb dX0_goBack_1 rfl ?_
  refine va_get (D := (dC, dI)) (ci := 0) (v := .int (I 145)) (C := RX0) (T := TX0) (N := 8) hx hb hts hinX0 hown hK hP 0 rfl rfl 6 (by decide) (hts (.fieldLink RX0 26 "MixedWords$Acts" "back" "I") (by decide +kernel)) (fun _ h9 => h9) rfl dX0_goBack_2 ?_
  refine xt_i (y := nI bk) (hbk) ?_
  refine lv_iconst (v := nI 1) hx hb dX0_goBack_5 (by decide) ?_
  refine lv_isub hx hb dX0_goBack_6 ?_
  refine xt_i (y := nI (bk - 1)) (pk_sub (by omega)) ?_
  refine va_put (D := (dC, dI)) (ci := 0) (v := .int (nI (bk - 1))) (ty := .int) (C := RX0) (T := TX0) (N := 8) hx hb hts hinX0 tyX0 tyX0_ok nmX0 hown hK hP hD hS 0 rfl rfl 6 (by decide) (hts (.fieldLink RX0 26 "MixedWords$Acts" "back" "I") (by decide +kernel)) (fun _ h9 => h9) rfl (by decide +kernel) rfl rfl (Nat.le_of_ble_eq_true rfl) dX0_goBack_7 (fun H locs hP hD hS => ?_)
  have hP : va_P (dC, dI) vwCl (wActs h cs (va_up I 145 (nI (bk - 1))) L A Q G J) H := hP
  have hD : va_D A0 (wActs h cs (va_up I 145 (nI (bk - 1))) L A Q G J) := hD
  refine lv_aload_n hx hb dX0_goBack_10 rfl (lv_at hl 0 rfl) ?_
  refine lv_dup hx hb dX0_goBack_11 rfl ?_
  refine va_get (D := (dC, dI)) (ci := 0) (v := .int (I 146)) (C := RX0) (T := TX0) (N := 8) hx hb hts hinX0 hown hK hP 0 rfl rfl 7 (by decide) (hts (.fieldLink RX0 29 "MixedWords$Acts" "on" "I") (by decide +kernel)) (fun _ h9 => h9) rfl dX0_goBack_12 ?_
  refine xt_i (y := nI on) (hon) ?_
  refine lv_iconst (v := nI 1) hx hb dX0_goBack_15 (by decide) ?_
  refine lv_iadd hx hb dX0_goBack_16 ?_
  refine xt_i (y := nI (on + 1)) (nI_add _ _) ?_
  refine va_put (D := (dC, dI)) (ci := 0) (v := .int (nI (on + 1))) (ty := .int) (C := RX0) (T := TX0) (N := 8) hx hb hts hinX0 tyX0 tyX0_ok nmX0 hown hK hP hD hS 0 rfl rfl 7 (by decide) (hts (.fieldLink RX0 29 "MixedWords$Acts" "on" "I") (by decide +kernel)) (fun _ h9 => h9) rfl (by decide +kernel) rfl rfl (Nat.le_of_ble_eq_true rfl) dX0_goBack_17 (fun H locs hP hD hS => ?_)
  have hP : va_P (dC, dI) vwCl (wActs h cs (va_up (va_up I 145 (nI (bk - 1))) 146 (nI (on + 1))) L A Q G J) H := hP
  have hD : va_D A0 (wActs h cs (va_up (va_up I 145 (nI (bk - 1))) 146 (nI (on + 1))) L A Q G J) := hD
  refine lv_aload_n hx hb dX0_goBack_20 rfl (lv_at hl 0 rfl) ?_
  refine va_get (D := (dC, dI)) (ci := 0) (v := .int (I 144)) (C := RX0) (T := TX0) (N := 8) hx hb hts hinX0 hown hK hP 0 rfl rfl 5 (by decide) (hts (.fieldLink RX0 22 "MixedWords$Acts" "oldest" "I") (by decide +kernel)) (fun _ h9 => h9) rfl dX0_goBack_21 ?_
  refine xt_i (y := nI o) (ho) ?_
  refine lv_aload_n hx hb dX0_goBack_24 rfl (lv_at hl 0 rfl) ?_
  refine va_get (D := (dC, dI)) (ci := 0) (v := .int (nI (bk - 1))) (C := RX0) (T := TX0) (N := 8) hx hb hts hinX0 hown hK hP 0 rfl rfl 6 (by decide) (hts (.fieldLink RX0 26 "MixedWords$Acts" "back" "I") (by decide +kernel)) (fun _ h9 => h9) rfl dX0_goBack_25 ?_
  refine lv_iadd hx hb dX0_goBack_28 ?_
  refine xt_i (y := nI (o + (bk - 1))) (nI_add _ _) ?_
  refine lv_bipush (v := nI 40) hx hb dX0_goBack_29 (by decide) ?_
  refine lv_irem hx hb dX0_goBack_31 (nI_ne0 (by omega) (by omega)) ?_
  refine xt_i (y := nI ((o + (bk - 1)) % 40)) (pk_rem (by omega) (by omega) (by omega)) ?_
  refine lv_istore_n (lv' := [(1, .int (nI ((o + (bk - 1)) % 40))), (0, .ref (h 102))]) hx hb dX0_goBack_32 rfl hl (by decide) rfl (fun ls hl => ?_)
  refine lv_aload_n hx hb dX0_goBack_33 rfl (lv_at hl 1 rfl) ?_
  refine va_get (D := (dC, dI)) (ci := 0) (v := .ref (h 101)) (C := RX0) (T := TX0) (N := 8) hx hb hts hinX0 hown hK hP 0 rfl rfl 0 (by decide) (hts (.fieldLink RX0 32 "MixedWords$Acts" "mix" "LMixedWords$Mix;") (by decide +kernel)) (fun _ h9 => h9) rfl dX0_goBack_34 ?_
  refine lv_aload_n hx hb dX0_goBack_37 rfl (lv_at hl 1 rfl) ?_
  refine va_get (D := (dC, dI)) (ci := 0) (v := .ref (h 140)) (C := RX0) (T := TX0) (N := 8) hx hb hts hinX0 hown hK hP 0 rfl rfl 1 (by decide) (hts (.fieldLink RX0 9 "MixedWords$Acts" "rowOf" "[I") (by decide +kernel)) (fun _ h9 => h9) rfl dX0_goBack_38 ?_
  refine lv_iload_n hx hb dX0_goBack_41 rfl (lv_at hl 0 rfl) ?_
  refine xa_iald hx hb hK hP 1 0 rfl rfl (by omega) (by decide) dX0_goBack_42 ?_
  obtain ⟨i9, j9, hi9, hj9, ei9, ej9⟩ := hring (bk - 1) (by omega)
  refine xt_i (y := nI i9) (ei9) ?_
  refine lv_aload_n hx hb dX0_goBack_43 rfl (lv_at hl 1 rfl) ?_
  refine va_get (D := (dC, dI)) (ci := 0) (v := .ref (h 141)) (C := RX0) (T := TX0) (N := 8) hx hb hts hinX0 hown hK hP 0 rfl rfl 2 (by decide) (hts (.fieldLink RX0 13 "MixedWords$Acts" "columnOf" "[I") (by decide +kernel)) (fun _ h9 => h9) rfl dX0_goBack_44 ?_
  refine lv_iload_n hx hb dX0_goBack_47 rfl (lv_at hl 0 rfl) ?_
  refine xa_iald hx hb hK hP 2 0 rfl rfl (by omega) (by decide) dX0_goBack_48 ?_
  refine xt_i (y := nI j9) (ej9) ?_
  refine lv_aload_n hx hb dX0_goBack_49 rfl (lv_at hl 1 rfl) ?_
  refine va_get (D := (dC, dI)) (ci := 0) (v := .ref (h 142)) (C := RX0) (T := TX0) (N := 8) hx hb hts hinX0 hown hK hP 0 rfl rfl 3 (by decide) (hts (.fieldLink RX0 16 "MixedWords$Acts" "before" "[I") (by decide +kernel)) (fun _ h9 => h9) rfl dX0_goBack_50 ?_
  refine lv_iload_n hx hb dX0_goBack_53 rfl (lv_at hl 0 rfl) ?_
  refine xa_iald hx hb hK hP 3 0 rfl rfl (by omega) (by decide) dX0_goBack_54 ?_
  refine xj_v (wc := (wMix h cs (va_up (va_up I 145 (nI (bk - 1))) 146 (nI (on + 1))) L A Q G J)) (wr := [(h 102, .inr (0, [.ref (h 101), .ref (h 140), .ref (h 141), .ref (h 142), .ref (h 143), .int (I 144), .int (nI (bk - 1)), .int (nI (on + 1))])), (h 140, .inl (cs 0, 40, .inl (A 140))), (h 141, .inl (cs 0, 40, .inl (A 141))), (h 142, .inl (cs 0, 40, .inl (A 142))), (h 143, .inl (cs 0, 40, .inl (A 143)))]) hP hD hS hA [5, 6, 7, 8, 9, 10, 11, 12] [0, 1, 2, 3, 4] rfl rfl (by decide +kernel) (by decide +kernel) (va_runV (As := [.int (nI i9), .int (nI j9), .int (A 142 ((o + (bk - 1)) % 40))]) (rest := []) ⟨hx, hb, hml, hown, hts⟩ (k_X3_put l dC dI h cs H.size (va_up (va_up I 145 (nI (bk - 1))) 146 (nI (on + 1))) L A Q G J i9 j9 (A 142 ((o + (bk - 1)) % 40)) M sp9 (by first | assumption | omega) (by first | assumption | omega) hM (by first | assumption | omega | exact hM1) (by first | assumption | omega | exact hM4) hst (by first | assumption | omega | exact hst2)) (cwV 3 hts gX0_goBack_X3_put rfl rfl rfl (by decide +kernel) ⟨Nat.le_of_ble_eq_true rfl, Nat.le_of_ble_eq_true rfl⟩) (xpV (wc := (wMix h cs (va_up (va_up I 145 (nI (bk - 1))) 146 (nI (on + 1))) L A Q G J)) hP hD hK hN [5, 6, 7, 8, 9, 10, 11, 12] rfl (by decide) 5 (ci := 3) rfl rfl _) rfl rfl hl.1 rfl (lv_room (Nat.le_of_ble_eq_true rfl)) dX0_goBack_55 ⟨Nat.zero_le _, Nat.zero_le _⟩) (fun u_1 H locs hw hP hD hS => ?_)
  obtain ⟨x123_3, f136_4, g0_5, hf_6, rfl⟩ := hw
  have hP : va_P (dC, dI) vwCl (wActs h cs (va_up (va_up (va_up I 145 (nI (bk - 1))) 146 (nI (on + 1))) 123 x123_3) L (va_up A 136 f136_4) Q (va_up G 0 g0_5) J) H := hP
  have hD : va_D A0 (wActs h cs (va_up (va_up (va_up I 145 (nI (bk - 1))) 146 (nI (on + 1))) 123 x123_3) L (va_up A 136 f136_4) Q (va_up G 0 g0_5) J) := hD
  obtain ⟨rfl, hput_7⟩ := hf_6
  refine lv_aload_n hx hb dX0_goBack_58 rfl (lv_at hl 1 rfl) ?_
  refine va_get (D := (dC, dI)) (ci := 0) (v := .int (nI (bk - 1))) (C := RX0) (T := TX0) (N := 8) hx hb hts hinX0 hown hK hP 0 rfl rfl 6 (by decide) (hts (.fieldLink RX0 26 "MixedWords$Acts" "back" "I") (by decide +kernel)) (fun _ h9 => h9) rfl dX0_goBack_59 ?_
  exact xr_i (v := (nI (bk - 1))) hx hb hr hlocks hK hS dX0_goBack_62 ((va_up (va_up (va_up I 123 (nI (sp9 + 1))) 145 (nI (bk - 1))) 146 (nI (on + 1))), L, (va_up A 136 f136_4), Q, (va_up G 0 g0_5), J) ⟨(nI (sp9 + 1)), f136_4, g0_5, (nI (bk - 1)), (nI (on + 1)), ⟨rfl, rfl, rfl, rfl, i9, j9, hi9, hj9, ei9, ej9, hput_7⟩, rfl⟩ hP hD
set_option maxRecDepth 20000 in
theorem ggX0_goOn_X3_put : GoodIn wsX0_goOn wsX3_put := goodIn_r _ [12, 13, 14, 15, 16, 25, 26, 27, 28, 29, 30] rfl (by decide +kernel)
set_option maxRecDepth 20000 in
theorem gX0_goOn_X3_put : GoodIn wsX0_goOn (wsV RX0 42 RX3 yX3_put wsX3_put) := goodIn_app (goodIn_of _ (by decide +kernel)) ggX0_goOn_X3_put
theorem bdX0_goOn_0 : (decode cX0_goOn 0 = .ok (.aload_n 0, 1)) ∧ (decode cX0_goOn 1 = .ok (.getfield 22, 3)) ∧ (decode cX0_goOn 4 = .ok (.aload_n 0, 1)) ∧ (decode cX0_goOn 5 = .ok (.getfield 26, 3)) ∧ (decode cX0_goOn 8 = .ok (.iadd, 1)) ∧ (decode cX0_goOn 9 = .ok (.bipush 40, 2)) ∧ (decode cX0_goOn 11 = .ok (.irem, 1)) ∧ (decode cX0_goOn 12 = .ok (.istore_n 1, 1)) ∧ (decode cX0_goOn 13 = .ok (.aload_n 0, 1)) ∧ (decode cX0_goOn 14 = .ok (.dup, 1)) ∧ (decode cX0_goOn 15 = .ok (.getfield 26, 3)) ∧ (decode cX0_goOn 18 = .ok (.iconst 1, 1)) ∧ (decode cX0_goOn 19 = .ok (.iadd, 1)) ∧ (decode cX0_goOn 20 = .ok (.putfield 26, 3)) ∧ (decode cX0_goOn 23 = .ok (.aload_n 0, 1)) ∧ (decode cX0_goOn 24 = .ok (.dup, 1)) := by decide +kernel
theorem dX0_goOn_0 : decode cX0_goOn 0 = .ok (.aload_n 0, 1) := bdX0_goOn_0.1
theorem dX0_goOn_1 : decode cX0_goOn 1 = .ok (.getfield 22, 3) := bdX0_goOn_0.2.1
theorem dX0_goOn_4 : decode cX0_goOn 4 = .ok (.aload_n 0, 1) := bdX0_goOn_0.2.2.1
theorem dX0_goOn_5 : decode cX0_goOn 5 = .ok (.getfield 26, 3) := bdX0_goOn_0.2.2.2.1
theorem dX0_goOn_8 : decode cX0_goOn 8 = .ok (.iadd, 1) := bdX0_goOn_0.2.2.2.2.1
theorem dX0_goOn_9 : decode cX0_goOn 9 = .ok (.bipush 40, 2) := bdX0_goOn_0.2.2.2.2.2.1
theorem dX0_goOn_11 : decode cX0_goOn 11 = .ok (.irem, 1) := bdX0_goOn_0.2.2.2.2.2.2.1
theorem dX0_goOn_12 : decode cX0_goOn 12 = .ok (.istore_n 1, 1) := bdX0_goOn_0.2.2.2.2.2.2.2.1
theorem dX0_goOn_13 : decode cX0_goOn 13 = .ok (.aload_n 0, 1) := bdX0_goOn_0.2.2.2.2.2.2.2.2.1
theorem dX0_goOn_14 : decode cX0_goOn 14 = .ok (.dup, 1) := bdX0_goOn_0.2.2.2.2.2.2.2.2.2.1
theorem dX0_goOn_15 : decode cX0_goOn 15 = .ok (.getfield 26, 3) := bdX0_goOn_0.2.2.2.2.2.2.2.2.2.2.1
theorem dX0_goOn_18 : decode cX0_goOn 18 = .ok (.iconst 1, 1) := bdX0_goOn_0.2.2.2.2.2.2.2.2.2.2.2.1
theorem dX0_goOn_19 : decode cX0_goOn 19 = .ok (.iadd, 1) := bdX0_goOn_0.2.2.2.2.2.2.2.2.2.2.2.2.1
theorem dX0_goOn_20 : decode cX0_goOn 20 = .ok (.putfield 26, 3) := bdX0_goOn_0.2.2.2.2.2.2.2.2.2.2.2.2.2.1
theorem dX0_goOn_23 : decode cX0_goOn 23 = .ok (.aload_n 0, 1) := bdX0_goOn_0.2.2.2.2.2.2.2.2.2.2.2.2.2.2.1
theorem dX0_goOn_24 : decode cX0_goOn 24 = .ok (.dup, 1) := bdX0_goOn_0.2.2.2.2.2.2.2.2.2.2.2.2.2.2.2
theorem bdX0_goOn_25 : (decode cX0_goOn 25 = .ok (.getfield 29, 3)) ∧ (decode cX0_goOn 28 = .ok (.iconst 1, 1)) ∧ (decode cX0_goOn 29 = .ok (.isub, 1)) ∧ (decode cX0_goOn 30 = .ok (.putfield 29, 3)) ∧ (decode cX0_goOn 33 = .ok (.aload_n 0, 1)) ∧ (decode cX0_goOn 34 = .ok (.getfield 32, 3)) ∧ (decode cX0_goOn 37 = .ok (.aload_n 0, 1)) ∧ (decode cX0_goOn 38 = .ok (.getfield 9, 3)) ∧ (decode cX0_goOn 41 = .ok (.iload_n 1, 1)) ∧ (decode cX0_goOn 42 = .ok (.iaload, 1)) ∧ (decode cX0_goOn 43 = .ok (.aload_n 0, 1)) ∧ (decode cX0_goOn 44 = .ok (.getfield 13, 3)) ∧ (decode cX0_goOn 47 = .ok (.iload_n 1, 1)) ∧ (decode cX0_goOn 48 = .ok (.iaload, 1)) ∧ (decode cX0_goOn 49 = .ok (.aload_n 0, 1)) ∧ (decode cX0_goOn 50 = .ok (.getfield 19, 3)) := by decide +kernel
theorem dX0_goOn_25 : decode cX0_goOn 25 = .ok (.getfield 29, 3) := bdX0_goOn_25.1
theorem dX0_goOn_28 : decode cX0_goOn 28 = .ok (.iconst 1, 1) := bdX0_goOn_25.2.1
theorem dX0_goOn_29 : decode cX0_goOn 29 = .ok (.isub, 1) := bdX0_goOn_25.2.2.1
theorem dX0_goOn_30 : decode cX0_goOn 30 = .ok (.putfield 29, 3) := bdX0_goOn_25.2.2.2.1
theorem dX0_goOn_33 : decode cX0_goOn 33 = .ok (.aload_n 0, 1) := bdX0_goOn_25.2.2.2.2.1
theorem dX0_goOn_34 : decode cX0_goOn 34 = .ok (.getfield 32, 3) := bdX0_goOn_25.2.2.2.2.2.1
theorem dX0_goOn_37 : decode cX0_goOn 37 = .ok (.aload_n 0, 1) := bdX0_goOn_25.2.2.2.2.2.2.1
theorem dX0_goOn_38 : decode cX0_goOn 38 = .ok (.getfield 9, 3) := bdX0_goOn_25.2.2.2.2.2.2.2.1
theorem dX0_goOn_41 : decode cX0_goOn 41 = .ok (.iload_n 1, 1) := bdX0_goOn_25.2.2.2.2.2.2.2.2.1
theorem dX0_goOn_42 : decode cX0_goOn 42 = .ok (.iaload, 1) := bdX0_goOn_25.2.2.2.2.2.2.2.2.2.1
theorem dX0_goOn_43 : decode cX0_goOn 43 = .ok (.aload_n 0, 1) := bdX0_goOn_25.2.2.2.2.2.2.2.2.2.2.1
theorem dX0_goOn_44 : decode cX0_goOn 44 = .ok (.getfield 13, 3) := bdX0_goOn_25.2.2.2.2.2.2.2.2.2.2.2.1
theorem dX0_goOn_47 : decode cX0_goOn 47 = .ok (.iload_n 1, 1) := bdX0_goOn_25.2.2.2.2.2.2.2.2.2.2.2.2.1
theorem dX0_goOn_48 : decode cX0_goOn 48 = .ok (.iaload, 1) := bdX0_goOn_25.2.2.2.2.2.2.2.2.2.2.2.2.2.1
theorem dX0_goOn_49 : decode cX0_goOn 49 = .ok (.aload_n 0, 1) := bdX0_goOn_25.2.2.2.2.2.2.2.2.2.2.2.2.2.2.1
theorem dX0_goOn_50 : decode cX0_goOn 50 = .ok (.getfield 19, 3) := bdX0_goOn_25.2.2.2.2.2.2.2.2.2.2.2.2.2.2.2
theorem bdX0_goOn_53 : (decode cX0_goOn 53 = .ok (.iload_n 1, 1)) ∧ (decode cX0_goOn 54 = .ok (.iaload, 1)) ∧ (decode cX0_goOn 55 = .ok (.invokevirtual 42, 3)) ∧ (decode cX0_goOn 58 = .ok (.aload_n 0, 1)) ∧ (decode cX0_goOn 59 = .ok (.getfield 29, 3)) ∧ (decode cX0_goOn 62 = .ok (.ireturn, 1)) := by decide +kernel
theorem dX0_goOn_53 : decode cX0_goOn 53 = .ok (.iload_n 1, 1) := bdX0_goOn_53.1
theorem dX0_goOn_54 : decode cX0_goOn 54 = .ok (.iaload, 1) := bdX0_goOn_53.2.1
theorem dX0_goOn_55 : decode cX0_goOn 55 = .ok (.invokevirtual 42, 3) := bdX0_goOn_53.2.2.1
theorem dX0_goOn_58 : decode cX0_goOn 58 = .ok (.aload_n 0, 1) := bdX0_goOn_53.2.2.2.1
theorem dX0_goOn_59 : decode cX0_goOn 59 = .ok (.getfield 29, 3) := bdX0_goOn_53.2.2.2.2.1
theorem dX0_goOn_62 : decode cX0_goOn 62 = .ok (.ireturn, 1) := bdX0_goOn_53.2.2.2.2.2
set_option maxHeartbeats 4000000 in
set_option maxRecDepth 100000 in
theorem k_X0_goOn (l : Launch) (dC : Nat → ClassId) (dI : Nat → Nat → Nat) (h : Nat → Nat) (cs : Nat → ClassId) (sz : Nat) (I : Nat → Int32) (L : Nat → Int64) (A : Nat → Nat → Int32) (Q : Nat → Nat → Int64) (G : Nat → Nat → Nat → Int32) (J : Nat → Nat → Nat → Int64) (M sp9 o bk on : Nat) (hM : I 121 = nI M) (hM1 : 1 ≤ M) (hM4 : M ≤ 4) (hst : I 123 = nI sp9) (hst2 : sp9 < 1000000000) (ho : I 144 = nI o) (ho4 : o < 40) (hbk : I 145 = nI bk) (hbk4 : bk ≤ 40) (hon : I 146 = nI on) (hon4 : bk + on ≤ 40) (hring : ∀ k : Nat, k < bk + on → ∃ i j : Nat, i < 5 ∧ j ≤ M ∧ A 140 ((o + k) % 40) = nI i ∧ A 141 ((o + k) % 40) = nI j) (hb0 : 0 < on) : Met l yX0_goOn wsX0_goOn ({ frames := 1, cells := 0, slots := 0, locals := 23 }) (va_Pc [.ref (h 102)] (xPre (dC, dI) (wActs h cs I L A Q G J) (tysA cs) sz)) (va_Qi (fun (r : Int32) (u : CS) => ∃ x123 : Int32, ∃ f136 : Nat → Int32, ∃ g0 : Nat → Nat → Int32, ∃ x145 : Int32, ∃ x146 : Int32, (r = nI (on - 1) ∧ x145 = nI (bk + 1) ∧ x146 = nI (on - 1) ∧ x123 = nI (sp9 + 1) ∧ ∃ i j : Nat, i < 5 ∧ j ≤ M ∧ A 140 ((o + (bk)) % 40) = nI i ∧ A 141 ((o + (bk)) % 40) = nI j ∧ putP M i j (A 143 ((o + (bk)) % 40)) (A 136) (G 0) f136 g0) ∧ u = ((va_up (va_up (va_up I 123 x123) 145 x145) 146 x146), L, (va_up A 136 f136), Q, (va_up G 0 g0), J)) (xB (dC, dI) (tysA cs) (va_A (wActs h cs I L A Q G J) sz) (fun u : CS => wActs h cs u.1 u.2.1 u.2.2.1 u.2.2.2.1 u.2.2.2.2.1 u.2.2.2.2.2)) (va_A (wActs h cs I L A Q G J) sz)) 0 0 (va_A (wActs h cs I L A Q G J) sz) := by
  refine Met.ofW (cc := cX0_goOn) (maxL := 2) (ret := (some .int)) (by decide) rfl ?_
  intro p e s m args below meth c s₁ B hml hv
  obtain ⟨rfl, hsz, hP, hK, hD0, hN⟩ := hv
  have hx := B.exec
  have hb := B.bytes
  have hr := B.returns
  have hts := atoms_spec (ws := wsX0_goOn) B.pre
  have hown : s.vm.findClass RX0 = some m.cls := findClass_of_methodNamed B.named
  have hlocks := B.notSynchronized
  subst hsz
  have hD := hD0.self (sz := s.heap.size)
  generalize hAe : va_A (wActs h cs I L A Q G J) s.heap.size = A0 at hD ⊢
  have hA : ∀ q : Nat, s.heap.size ≤ q → A0 q := fun q h => by rw [← hAe]; exact Or.inr h
  have hl := lv_entry ([.ref (h 102)]) (n := 2) (Nat.le_of_ble_eq_true rfl)
  rw [lg_entry_eq]
  generalize (lg_sl ([.ref (h 102)]) ++ List.replicate (2 - (lg_sl ([.ref (h 102)])).length) Slot.unset).toArray = ls at hl ⊢
  have hl : lv_has ls 2 [(0, .ref (h 102))] := hl
  generalize hH : s.heap = H at hP ⊢
  have hS : va_S A0 s.heap H [] := by rw [← hH]; exact va_S.rf
  have hinX0 : ∀ w ∈ wsX00, w ∈ wsX0_goOn := by decide +kernel
  refine lv_aload_n hx hb dX0_goOn_0 rfl (lv_at hl 0 rfl) ?_
  refine va_get (D := (dC, dI)) (ci := 0) (v := .int (I 144)) (C := RX0) (T := TX0) (N := 8) hx hb hts hinX0 hown hK hP 0 rfl rfl 5 (by decide) (hts (.fieldLink RX0 22 "MixedWords$Acts" "oldest" "I") (by decide +kernel)) (fun _ h9 => h9) rfl dX0_goOn_1 ?_
  refine xt_i (y := nI o) (ho) ?_
  refine lv_aload_n hx hb dX0_goOn_4 rfl (lv_at hl 0 rfl) ?_
  refine va_get (D := (dC, dI)) (ci := 0) (v := .int (I 145)) (C := RX0) (T := TX0) (N := 8) hx hb hts hinX0 hown hK hP 0 rfl rfl 6 (by decide) (hts (.fieldLink RX0 26 "MixedWords$Acts" "back" "I") (by decide +kernel)) (fun _ h9 => h9) rfl dX0_goOn_5 ?_
  refine xt_i (y := nI bk) (hbk) ?_
  refine lv_iadd hx hb dX0_goOn_8 ?_
  refine xt_i (y := nI (o + bk)) (nI_add _ _) ?_
  refine lv_bipush (v := nI 40) hx hb dX0_goOn_9 (by decide) ?_
  refine lv_irem hx hb dX0_goOn_11 (nI_ne0 (by omega) (by omega)) ?_
  refine xt_i (y := nI ((o + bk) % 40)) (pk_rem (by omega) (by omega) (by omega)) ?_
  refine lv_istore_n (lv' := [(1, .int (nI ((o + bk) % 40))), (0, .ref (h 102))]) hx hb dX0_goOn_12 rfl hl (by decide) rfl (fun ls hl => ?_)
  refine lv_aload_n hx hb dX0_goOn_13 rfl (lv_at hl 1 rfl) ?_
  refine lv_dup hx hb dX0_goOn_14 rfl ?_
  refine va_get (D := (dC, dI)) (ci := 0) (v := .int (I 145)) (C := RX0) (T := TX0) (N := 8) hx hb hts hinX0 hown hK hP 0 rfl rfl 6 (by decide) (hts (.fieldLink RX0 26 "MixedWords$Acts" "back" "I") (by decide +kernel)) (fun _ h9 => h9) rfl dX0_goOn_15 ?_
  refine xt_i (y := nI bk) (hbk) ?_
  refine lv_iconst (v := nI 1) hx hb dX0_goOn_18 (by decide) ?_
  refine lv_iadd hx hb dX0_goOn_19 ?_
  refine xt_i (y := nI (bk + 1)) (nI_add _ _) ?_
  refine va_put (D := (dC, dI)) (ci := 0) (v := .int (nI (bk + 1))) (ty := .int) (C := RX0) (T := TX0) (N := 8) hx hb hts hinX0 tyX0 tyX0_ok nmX0 hown hK hP hD hS 0 rfl rfl 6 (by decide) (hts (.fieldLink RX0 26 "MixedWords$Acts" "back" "I") (by decide +kernel)) (fun _ h9 => h9) rfl (by decide +kernel) rfl rfl (Nat.le_of_ble_eq_true rfl) dX0_goOn_20 (fun H locs hP hD hS => ?_)
  have hP : va_P (dC, dI) vwCl (wActs h cs (va_up I 145 (nI (bk + 1))) L A Q G J) H := hP
  have hD : va_D A0 (wActs h cs (va_up I 145 (nI (bk + 1))) L A Q G J) := hD
  refine lv_aload_n hx hb dX0_goOn_23 rfl (lv_at hl 1 rfl) ?_
  refine lv_dup hx hb dX0_goOn_24 rfl ?_
  refine va_get (D := (dC, dI)) (ci := 0) (v := .int (I 146)) (C := RX0) (T := TX0) (N := 8) hx hb hts hinX0 hown hK hP 0 rfl rfl 7 (by decide) (hts (.fieldLink RX0 29 "MixedWords$Acts" "on" "I") (by decide +kernel)) (fun _ h9 => h9) rfl dX0_goOn_25 ?_
  refine xt_i (y := nI on) (hon) ?_
  refine lv_iconst (v := nI 1) hx hb dX0_goOn_28 (by decide) ?_
  refine lv_isub hx hb dX0_goOn_29 ?_
  refine xt_i (y := nI (on - 1)) (pk_sub (by omega)) ?_
  refine va_put (D := (dC, dI)) (ci := 0) (v := .int (nI (on - 1))) (ty := .int) (C := RX0) (T := TX0) (N := 8) hx hb hts hinX0 tyX0 tyX0_ok nmX0 hown hK hP hD hS 0 rfl rfl 7 (by decide) (hts (.fieldLink RX0 29 "MixedWords$Acts" "on" "I") (by decide +kernel)) (fun _ h9 => h9) rfl (by decide +kernel) rfl rfl (Nat.le_of_ble_eq_true rfl) dX0_goOn_30 (fun H locs hP hD hS => ?_)
  have hP : va_P (dC, dI) vwCl (wActs h cs (va_up (va_up I 145 (nI (bk + 1))) 146 (nI (on - 1))) L A Q G J) H := hP
  have hD : va_D A0 (wActs h cs (va_up (va_up I 145 (nI (bk + 1))) 146 (nI (on - 1))) L A Q G J) := hD
  refine lv_aload_n hx hb dX0_goOn_33 rfl (lv_at hl 1 rfl) ?_
  refine va_get (D := (dC, dI)) (ci := 0) (v := .ref (h 101)) (C := RX0) (T := TX0) (N := 8) hx hb hts hinX0 hown hK hP 0 rfl rfl 0 (by decide) (hts (.fieldLink RX0 32 "MixedWords$Acts" "mix" "LMixedWords$Mix;") (by decide +kernel)) (fun _ h9 => h9) rfl dX0_goOn_34 ?_
  refine lv_aload_n hx hb dX0_goOn_37 rfl (lv_at hl 1 rfl) ?_
  refine va_get (D := (dC, dI)) (ci := 0) (v := .ref (h 140)) (C := RX0) (T := TX0) (N := 8) hx hb hts hinX0 hown hK hP 0 rfl rfl 1 (by decide) (hts (.fieldLink RX0 9 "MixedWords$Acts" "rowOf" "[I") (by decide +kernel)) (fun _ h9 => h9) rfl dX0_goOn_38 ?_
  refine lv_iload_n hx hb dX0_goOn_41 rfl (lv_at hl 0 rfl) ?_
  refine xa_iald hx hb hK hP 1 0 rfl rfl (by omega) (by decide) dX0_goOn_42 ?_
  obtain ⟨i9, j9, hi9, hj9, ei9, ej9⟩ := hring (bk) (by omega)
  refine xt_i (y := nI i9) (ei9) ?_
  refine lv_aload_n hx hb dX0_goOn_43 rfl (lv_at hl 1 rfl) ?_
  refine va_get (D := (dC, dI)) (ci := 0) (v := .ref (h 141)) (C := RX0) (T := TX0) (N := 8) hx hb hts hinX0 hown hK hP 0 rfl rfl 2 (by decide) (hts (.fieldLink RX0 13 "MixedWords$Acts" "columnOf" "[I") (by decide +kernel)) (fun _ h9 => h9) rfl dX0_goOn_44 ?_
  refine lv_iload_n hx hb dX0_goOn_47 rfl (lv_at hl 0 rfl) ?_
  refine xa_iald hx hb hK hP 2 0 rfl rfl (by omega) (by decide) dX0_goOn_48 ?_
  refine xt_i (y := nI j9) (ej9) ?_
  refine lv_aload_n hx hb dX0_goOn_49 rfl (lv_at hl 1 rfl) ?_
  refine va_get (D := (dC, dI)) (ci := 0) (v := .ref (h 143)) (C := RX0) (T := TX0) (N := 8) hx hb hts hinX0 hown hK hP 0 rfl rfl 4 (by decide) (hts (.fieldLink RX0 19 "MixedWords$Acts" "after" "[I") (by decide +kernel)) (fun _ h9 => h9) rfl dX0_goOn_50 ?_
  refine lv_iload_n hx hb dX0_goOn_53 rfl (lv_at hl 0 rfl) ?_
  refine xa_iald hx hb hK hP 4 0 rfl rfl (by omega) (by decide) dX0_goOn_54 ?_
  refine xj_v (wc := (wMix h cs (va_up (va_up I 145 (nI (bk + 1))) 146 (nI (on - 1))) L A Q G J)) (wr := [(h 102, .inr (0, [.ref (h 101), .ref (h 140), .ref (h 141), .ref (h 142), .ref (h 143), .int (I 144), .int (nI (bk + 1)), .int (nI (on - 1))])), (h 140, .inl (cs 0, 40, .inl (A 140))), (h 141, .inl (cs 0, 40, .inl (A 141))), (h 142, .inl (cs 0, 40, .inl (A 142))), (h 143, .inl (cs 0, 40, .inl (A 143)))]) hP hD hS hA [5, 6, 7, 8, 9, 10, 11, 12] [0, 1, 2, 3, 4] rfl rfl (by decide +kernel) (by decide +kernel) (va_runV (As := [.int (nI i9), .int (nI j9), .int (A 143 ((o + bk) % 40))]) (rest := []) ⟨hx, hb, hml, hown, hts⟩ (k_X3_put l dC dI h cs H.size (va_up (va_up I 145 (nI (bk + 1))) 146 (nI (on - 1))) L A Q G J i9 j9 (A 143 ((o + bk) % 40)) M sp9 (by first | assumption | omega) (by first | assumption | omega) hM (by first | assumption | omega | exact hM1) (by first | assumption | omega | exact hM4) hst (by first | assumption | omega | exact hst2)) (cwV 3 hts gX0_goOn_X3_put rfl rfl rfl (by decide +kernel) ⟨Nat.le_of_ble_eq_true rfl, Nat.le_of_ble_eq_true rfl⟩) (xpV (wc := (wMix h cs (va_up (va_up I 145 (nI (bk + 1))) 146 (nI (on - 1))) L A Q G J)) hP hD hK hN [5, 6, 7, 8, 9, 10, 11, 12] rfl (by decide) 5 (ci := 3) rfl rfl _) rfl rfl hl.1 rfl (lv_room (Nat.le_of_ble_eq_true rfl)) dX0_goOn_55 ⟨Nat.zero_le _, Nat.zero_le _⟩) (fun u_1 H locs hw hP hD hS => ?_)
  obtain ⟨x123_3, f136_4, g0_5, hf_6, rfl⟩ := hw
  have hP : va_P (dC, dI) vwCl (wActs h cs (va_up (va_up (va_up I 145 (nI (bk + 1))) 146 (nI (on - 1))) 123 x123_3) L (va_up A 136 f136_4) Q (va_up G 0 g0_5) J) H := hP
  have hD : va_D A0 (wActs h cs (va_up (va_up (va_up I 145 (nI (bk + 1))) 146 (nI (on - 1))) 123 x123_3) L (va_up A 136 f136_4) Q (va_up G 0 g0_5) J) := hD
  obtain ⟨rfl, hput_7⟩ := hf_6
  refine lv_aload_n hx hb dX0_goOn_58 rfl (lv_at hl 1 rfl) ?_
  refine va_get (D := (dC, dI)) (ci := 0) (v := .int (nI (on - 1))) (C := RX0) (T := TX0) (N := 8) hx hb hts hinX0 hown hK hP 0 rfl rfl 7 (by decide) (hts (.fieldLink RX0 29 "MixedWords$Acts" "on" "I") (by decide +kernel)) (fun _ h9 => h9) rfl dX0_goOn_59 ?_
  exact xr_i (v := (nI (on - 1))) hx hb hr hlocks hK hS dX0_goOn_62 ((va_up (va_up (va_up I 123 (nI (sp9 + 1))) 145 (nI (bk + 1))) 146 (nI (on - 1))), L, (va_up A 136 f136_4), Q, (va_up G 0 g0_5), J) ⟨(nI (sp9 + 1)), f136_4, g0_5, (nI (bk + 1)), (nI (on - 1)), ⟨rfl, rfl, rfl, rfl, i9, j9, hi9, hj9, ei9, ej9, hput_7⟩, rfl⟩ hP hD
