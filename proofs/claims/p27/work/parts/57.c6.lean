
def bitN (a v b : Nat) : Nat := if a = 2 then v else if b = 0 then v / 2 else (v / 2 + v) % 2
theorem shr1 {v : Nat} (h : v < 4) : nI v >>> (nI 1 &&& 31) = nI (v / 2) := by
  have : v = 0 ∨ v = 1 ∨ v = 2 ∨ v = 3 := by omega
  rcases this with rfl | rfl | rfl | rfl <;> decide
theorem xor1 {v : Nat} (h : v < 4) : (nI (v / 2) ^^^ nI v) &&& nI 1 = nI ((v / 2 + v) % 2) := by
  have : v = 0 ∨ v = 1 ∨ v = 2 ∨ v = 3 := by omega
  rcases this with rfl | rfl | rfl | rfl <;> decide
theorem bitN_lt {a v b : Nat} (ha : a = 2 ∨ a = 4) (hv : v < a) : bitN a v b < 4 := by
  unfold bitN
  split
  · omega
  · split <;> omega
def lwF (o : Nat → Int32) (bt : Nat → Nat) (v : Nat) : Nat → Int32
  | 0 => nI 10000000
  | w + 1 => if bt w = v then (if o w < lwF o bt v w then o w else lwF o bt v w) else lwF o bt v w
theorem lw_y {o : Nat → Int32} {bt : Nat → Nat} {v k : Nat} {z : Int32} (hz : z = lwF o bt v k) (h : bt k = v) : (if o k < z then o k else z) = lwF o bt v (k + 1) := by rw [lwF, if_pos h, ← hz]
theorem lw_n {o : Nat → Int32} {bt : Nat → Nat} {v k : Nat} {z : Int32} (hz : z = lwF o bt v k) (h : ¬ bt k = v) : z = lwF o bt v (k + 1) := by rw [lwF, if_neg h, ← hz]
def bitC (a M cl b w : Nat) : Nat := bitN a (w / a ^ (M - 1 - cl) % a) b
set_option maxRecDepth 20000 in
theorem ggX8_bitOf_X8_indexOf : GoodIn wsX8_bitOf wsX8_indexOf := goodIn_r _ [7, 1, 8, 2, 9, 10, 11, 12, 13, 14, 15, 16, 17, 18, 19, 20, 21, 22, 23, 24, 25, 26] rfl (by decide +kernel)
set_option maxRecDepth 20000 in
theorem gX8_bitOf_X8_indexOf : GoodIn wsX8_bitOf (wsV RX8 47 RX8 yX8_indexOf wsX8_indexOf) := goodIn_app (goodIn_of _ (by decide +kernel)) ggX8_bitOf_X8_indexOf
theorem bdX8_bitOf_0 : (decode cX8_bitOf 0 = .ok (.aload_n 0, 1)) ∧ (decode cX8_bitOf 1 = .ok (.iload_n 1, 1)) ∧ (decode cX8_bitOf 2 = .ok (.iload_n 2, 1)) ∧ (decode cX8_bitOf 3 = .ok (.invokevirtual 47, 3)) ∧ (decode cX8_bitOf 6 = .ok (.istore 4, 2)) ∧ (decode cX8_bitOf 8 = .ok (.aload_n 0, 1)) ∧ (decode cX8_bitOf 9 = .ok (.getfield 28, 3)) ∧ (decode cX8_bitOf 12 = .ok (.getfield 51, 3)) ∧ (decode cX8_bitOf 15 = .ok (.iconst 2, 1)) ∧ (decode cX8_bitOf 16 = .ok (.if_icmp .ne 6, 3)) ∧ (decode cX8_bitOf 19 = .ok (.iload 4, 2)) ∧ (decode cX8_bitOf 21 = .ok (.ireturn, 1)) ∧ (decode cX8_bitOf 22 = .ok (.iload_n 3, 1)) ∧ (decode cX8_bitOf 23 = .ok (.ifCond .ne 10, 3)) ∧ (decode cX8_bitOf 26 = .ok (.iload 4, 2)) ∧ (decode cX8_bitOf 28 = .ok (.iconst 1, 1)) := by decide +kernel
theorem dX8_bitOf_0 : decode cX8_bitOf 0 = .ok (.aload_n 0, 1) := bdX8_bitOf_0.1
theorem dX8_bitOf_1 : decode cX8_bitOf 1 = .ok (.iload_n 1, 1) := bdX8_bitOf_0.2.1
theorem dX8_bitOf_2 : decode cX8_bitOf 2 = .ok (.iload_n 2, 1) := bdX8_bitOf_0.2.2.1
theorem dX8_bitOf_3 : decode cX8_bitOf 3 = .ok (.invokevirtual 47, 3) := bdX8_bitOf_0.2.2.2.1
theorem dX8_bitOf_6 : decode cX8_bitOf 6 = .ok (.istore 4, 2) := bdX8_bitOf_0.2.2.2.2.1
theorem dX8_bitOf_8 : decode cX8_bitOf 8 = .ok (.aload_n 0, 1) := bdX8_bitOf_0.2.2.2.2.2.1
theorem dX8_bitOf_9 : decode cX8_bitOf 9 = .ok (.getfield 28, 3) := bdX8_bitOf_0.2.2.2.2.2.2.1
theorem dX8_bitOf_12 : decode cX8_bitOf 12 = .ok (.getfield 51, 3) := bdX8_bitOf_0.2.2.2.2.2.2.2.1
theorem dX8_bitOf_15 : decode cX8_bitOf 15 = .ok (.iconst 2, 1) := bdX8_bitOf_0.2.2.2.2.2.2.2.2.1
theorem dX8_bitOf_16 : decode cX8_bitOf 16 = .ok (.if_icmp .ne 6, 3) := bdX8_bitOf_0.2.2.2.2.2.2.2.2.2.1
theorem dX8_bitOf_19 : decode cX8_bitOf 19 = .ok (.iload 4, 2) := bdX8_bitOf_0.2.2.2.2.2.2.2.2.2.2.1
theorem dX8_bitOf_21 : decode cX8_bitOf 21 = .ok (.ireturn, 1) := bdX8_bitOf_0.2.2.2.2.2.2.2.2.2.2.2.1
theorem dX8_bitOf_22 : decode cX8_bitOf 22 = .ok (.iload_n 3, 1) := bdX8_bitOf_0.2.2.2.2.2.2.2.2.2.2.2.2.1
theorem dX8_bitOf_23 : decode cX8_bitOf 23 = .ok (.ifCond .ne 10, 3) := bdX8_bitOf_0.2.2.2.2.2.2.2.2.2.2.2.2.2.1
theorem dX8_bitOf_26 : decode cX8_bitOf 26 = .ok (.iload 4, 2) := bdX8_bitOf_0.2.2.2.2.2.2.2.2.2.2.2.2.2.2.1
theorem dX8_bitOf_28 : decode cX8_bitOf 28 = .ok (.iconst 1, 1) := bdX8_bitOf_0.2.2.2.2.2.2.2.2.2.2.2.2.2.2.2
theorem bdX8_bitOf_29 : (decode cX8_bitOf 29 = .ok (.ishr, 1)) ∧ (decode cX8_bitOf 30 = .ok (.goto 12, 3)) ∧ (decode cX8_bitOf 33 = .ok (.iload 4, 2)) ∧ (decode cX8_bitOf 35 = .ok (.iconst 1, 1)) ∧ (decode cX8_bitOf 36 = .ok (.ishr, 1)) ∧ (decode cX8_bitOf 37 = .ok (.iload 4, 2)) ∧ (decode cX8_bitOf 39 = .ok (.ixor, 1)) ∧ (decode cX8_bitOf 40 = .ok (.iconst 1, 1)) ∧ (decode cX8_bitOf 41 = .ok (.iand, 1)) ∧ (decode cX8_bitOf 42 = .ok (.ireturn, 1)) := by decide +kernel
theorem dX8_bitOf_29 : decode cX8_bitOf 29 = .ok (.ishr, 1) := bdX8_bitOf_29.1
theorem dX8_bitOf_30 : decode cX8_bitOf 30 = .ok (.goto 12, 3) := bdX8_bitOf_29.2.1
theorem dX8_bitOf_33 : decode cX8_bitOf 33 = .ok (.iload 4, 2) := bdX8_bitOf_29.2.2.1
theorem dX8_bitOf_35 : decode cX8_bitOf 35 = .ok (.iconst 1, 1) := bdX8_bitOf_29.2.2.2.1
theorem dX8_bitOf_36 : decode cX8_bitOf 36 = .ok (.ishr, 1) := bdX8_bitOf_29.2.2.2.2.1
theorem dX8_bitOf_37 : decode cX8_bitOf 37 = .ok (.iload 4, 2) := bdX8_bitOf_29.2.2.2.2.2.1
theorem dX8_bitOf_39 : decode cX8_bitOf 39 = .ok (.ixor, 1) := bdX8_bitOf_29.2.2.2.2.2.2.1
theorem dX8_bitOf_40 : decode cX8_bitOf 40 = .ok (.iconst 1, 1) := bdX8_bitOf_29.2.2.2.2.2.2.2.1
theorem dX8_bitOf_41 : decode cX8_bitOf 41 = .ok (.iand, 1) := bdX8_bitOf_29.2.2.2.2.2.2.2.2.1
theorem dX8_bitOf_42 : decode cX8_bitOf 42 = .ok (.ireturn, 1) := bdX8_bitOf_29.2.2.2.2.2.2.2.2.2
set_option maxHeartbeats 4000000 in
set_option maxRecDepth 100000 in
theorem k_X8_bitOf (l : Launch) (dC : Nat → ClassId) (dI : Nat → Nat → Nat) (h : Nat → Nat) (cs : Nat → ClassId) (sz : Nat) (I : Nat → Int32) (L : Nat → Int64) (A : Nat → Nat → Int32) (Q : Nat → Nat → Int64) (G : Nat → Nat → Nat → Int32) (J : Nat → Nat → Nat → Int64) (w cl b M a : Nat) (hw : w ≤ 256) (hcl : cl < M) (hb1 : b ≤ 1) (hM : I 121 = nI M) (hM1 : 1 ≤ M) (hM4 : M ≤ 4) (ha : I 122 = nI a) (ha2 : a = 2 ∨ a = 4) : Met l yX8_bitOf wsX8_bitOf ({ frames := 2, cells := 0, slots := 0, locals := 42 }) (va_Pc [.ref (h 105), .int (nI w), .int (nI cl), .int (nI b)] (xPre (dC, dI) (wWords h cs I L A Q G J) (tysA cs) sz)) (va_Qi (fun (r : Int32) (u : CS) => (r = nI (bitN a (w / a ^ (M - 1 - cl) % a) b)) ∧ u = (I, L, A, Q, G, J)) (xB (dC, dI) (tysA cs) (va_A (wWords h cs I L A Q G J) sz) (fun u : CS => wWords h cs u.1 u.2.1 u.2.2.1 u.2.2.2.1 u.2.2.2.2.1 u.2.2.2.2.2)) (va_A (wWords h cs I L A Q G J) sz)) 0 0 (va_A (wWords h cs I L A Q G J) sz) := by
  refine Met.ofW (cc := cX8_bitOf) (maxL := 5) (ret := (some .int)) (by decide) rfl ?_
  intro p e s m args below meth c s₁ B hml hv
  obtain ⟨rfl, hsz, hP, hK, hD0, hN⟩ := hv
  have hx := B.exec
  have hb := B.bytes
  have hr := B.returns
  have hts := atoms_spec (ws := wsX8_bitOf) B.pre
  have hown : s.vm.findClass RX8 = some m.cls := findClass_of_methodNamed B.named
  have hlocks := B.notSynchronized
  subst hsz
  have hD := hD0.self (sz := s.heap.size)
  generalize hAe : va_A (wWords h cs I L A Q G J) s.heap.size = A0 at hD ⊢
  have hA : ∀ q : Nat, s.heap.size ≤ q → A0 q := fun q h => by rw [← hAe]; exact Or.inr h
  have hl := lv_entry ([.ref (h 105), .int (nI w), .int (nI cl), .int (nI b)]) (n := 5) (Nat.le_of_ble_eq_true rfl)
  rw [lg_entry_eq]
  generalize (lg_sl ([.ref (h 105), .int (nI w), .int (nI cl), .int (nI b)]) ++ List.replicate (5 - (lg_sl ([.ref (h 105), .int (nI w), .int (nI cl), .int (nI b)])).length) Slot.unset).toArray = ls at hl ⊢
  have hl : lv_has ls 5 [(0, .ref (h 105)), (1, .int (nI w)), (2, .int (nI cl)), (3, .int (nI b))] := hl
  generalize hH : s.heap = H at hP ⊢
  have hS : va_S A0 s.heap H [] := by rw [← hH]; exact va_S.rf
  have hinX8 : ∀ w ∈ wsX80, w ∈ wsX8_bitOf := by decide +kernel
  have hinX3 : ∀ w ∈ wsX30, w ∈ wsX8_bitOf := by decide +kernel
  refine lv_aload_n hx hb dX8_bitOf_0 rfl (lv_at hl 0 rfl) ?_
  refine lv_iload_n hx hb dX8_bitOf_1 rfl (lv_at hl 1 rfl) ?_
  refine lv_iload_n hx hb dX8_bitOf_2 rfl (lv_at hl 2 rfl) ?_
  refine xj_i (wc := (wWords h cs I L A Q G J)) (wr := ([] : va_W)) hP hD hS hA [0, 1, 2, 3, 4, 5, 6, 7, 8, 9, 10, 11] [] rfl rfl (by decide +kernel) (by decide +kernel) (va_runV (As := [.int (nI w), .int (nI cl)]) (rest := []) ⟨hx, hb, hml, hown, hts⟩ (k_X8_indexOf l dC dI h cs H.size I L A Q G J w cl M a (by first | assumption | omega | exact hw) (by first | assumption | omega | exact hcl) hM (by first | assumption | omega | exact hM1) (by first | assumption | omega | exact hM4) ha (by first | assumption | omega | exact ha2)) (cwV 2 hts gX8_bitOf_X8_indexOf rfl rfl rfl (by decide +kernel) ⟨Nat.le_of_ble_eq_true rfl, Nat.le_of_ble_eq_true rfl⟩) (xpV (wc := (wWords h cs I L A Q G J)) hP hD hK hN [0, 1, 2, 3, 4, 5, 6, 7, 8, 9, 10, 11] rfl (by decide) 0 (ci := 8) rfl rfl _) rfl rfl hl.1 rfl (lv_room (Nat.le_of_ble_eq_true rfl)) dX8_bitOf_3 ⟨Nat.zero_le _, Nat.zero_le _⟩) (fun r_2 u_1 H locs hw hP hD hS => ?_)
  obtain ⟨hf_3, rfl⟩ := hw
  have hP : va_P (dC, dI) vwCl (wWords h cs I L A Q G J) H := hP
  have hD : va_D A0 (wWords h cs I L A Q G J) := hD
  obtain rfl := hf_3
  have hv4 : w / a ^ (M - 1 - cl) % a < a := Nat.mod_lt _ (by omega)
  generalize w / a ^ (M - 1 - cl) % a = v9 at hv4 ⊢
  refine lv_istore (lv' := [(4, .int (nI v9)), (0, .ref (h 105)), (1, .int (nI w)), (2, .int (nI cl)), (3, .int (nI b))]) hx hb dX8_bitOf_6 hl (by decide) rfl (fun ls hl => ?_)
  refine lv_aload_n hx hb dX8_bitOf_8 rfl (lv_at hl 1 rfl) ?_
  refine va_get (D := (dC, dI)) (ci := 8) (v := .ref (h 101)) (C := RX8) (T := TX8) (N := 6) hx hb hts hinX8 hown hK hP 0 rfl rfl 0 (by decide) (hts (.fieldLink RX8 28 "MixedWords$Words" "mix" "LMixedWords$Mix;") (by decide +kernel)) (fun _ h9 => h9) rfl dX8_bitOf_9 ?_
  refine va_get (D := (dC, dI)) (ci := 3) (v := .int (I 122)) (C := RX3) (T := TX3) (N := 6) hx hb hts hinX3 hown hK hP 4 rfl rfl 2 (by decide) (hts (.fieldLink RX8 51 "MixedWords$Mix" "letterCount" "I") (by decide +kernel)) (fun _ h9 => h9) rfl dX8_bitOf_12 ?_
  refine xt_i (y := nI a) (ha) ?_
  refine lv_iconst (v := nI 2) hx hb dX8_bitOf_15 (by decide) ?_
  refine xn_ne (tgt := 22) hx hb dX8_bitOf_16 (by decide) (by omega) (by omega) (fun c_16_3 => ?_) (fun c_16_3 => ?_)
  · skip
    refine lv_iload_n hx hb dX8_bitOf_22 rfl (lv_at hl 4 rfl) ?_
    refine xz_ne (tgt := 33) hx hb dX8_bitOf_23 (by decide) (by omega) (fun c_23_4 => ?_) (fun c_23_4 => ?_)
    · skip
      refine lv_iload hx hb dX8_bitOf_33 (lv_at hl 0 rfl) ?_
      refine lv_iconst (v := nI 1) hx hb dX8_bitOf_35 (by decide) ?_
      refine lv_ishr hx hb dX8_bitOf_36 ?_
      refine xt_i (y := nI (v9 / 2)) (shr1 (by omega)) ?_
      refine lv_iload hx hb dX8_bitOf_37 (lv_at hl 0 rfl) ?_
      refine lv_ixor hx hb dX8_bitOf_39 ?_
      refine lv_iconst (v := nI 1) hx hb dX8_bitOf_40 (by decide) ?_
      refine lv_iand hx hb dX8_bitOf_41 ?_
      refine xt_i (y := nI ((v9 / 2 + v9) % 2)) (xor1 (by omega)) ?_
      exact xr_i (v := (nI ((v9 / 2 + v9) % 2))) hx hb hr hlocks hK hS dX8_bitOf_42 (I, L, A, Q, G, J) ⟨(by unfold bitN; first | rw [if_pos (by omega)] | rw [if_neg (by omega), if_pos (by omega)] | rw [if_neg (by omega), if_neg (by omega)]), rfl⟩ hP hD
    · skip
      refine lv_iload hx hb dX8_bitOf_26 (lv_at hl 0 rfl) ?_
      refine lv_iconst (v := nI 1) hx hb dX8_bitOf_28 (by decide) ?_
      refine lv_ishr hx hb dX8_bitOf_29 ?_
      refine xt_i (y := nI (v9 / 2)) (shr1 (by omega)) ?_
      refine lv_goto (tgt := 42) hx hb dX8_bitOf_30 (by decide) ?_
      exact xr_i (v := (nI (v9 / 2))) hx hb hr hlocks hK hS dX8_bitOf_42 (I, L, A, Q, G, J) ⟨(by unfold bitN; first | rw [if_pos (by omega)] | rw [if_neg (by omega), if_pos (by omega)] | rw [if_neg (by omega), if_neg (by omega)]), rfl⟩ hP hD
  · skip
    refine lv_iload hx hb dX8_bitOf_19 (lv_at hl 0 rfl) ?_
    exact xr_i (v := (nI v9)) hx hb hr hlocks hK hS dX8_bitOf_21 (I, L, A, Q, G, J) ⟨(by unfold bitN; first | rw [if_pos (by omega)] | rw [if_neg (by omega), if_pos (by omega)] | rw [if_neg (by omega), if_neg (by omega)]), rfl⟩ hP hD
set_option maxRecDepth 20000 in
theorem ggX8_leastWith_X8_workOutOffs : GoodIn wsX8_leastWith wsX8_workOutOffs := goodIn_r _ [12, 13, 2, 14, 3, 15, 16, 17, 18, 19, 20, 21, 22, 23, 24, 25, 26, 27, 28, 11, 29, 30, 31, 32, 33, 34, 35, 36, 37, 38, 39, 44, 45, 46, 47, 48, 49, 50, 51, 52, 53, 54, 55] rfl (by decide +kernel)
set_option maxRecDepth 20000 in
theorem gX8_leastWith_X8_workOutOffs : GoodIn wsX8_leastWith (wsV RX8 58 RX8 yX8_workOutOffs wsX8_workOutOffs) := goodIn_app (goodIn_of _ (by decide +kernel)) ggX8_leastWith_X8_workOutOffs
set_option maxRecDepth 20000 in
theorem ggX8_leastWith_X3_wordCount : GoodIn wsX8_leastWith wsX3_wordCount := goodIn_r _ [19, 20, 21, 22, 23, 18, 24, 25, 50, 51, 52, 53, 54, 55] rfl (by decide +kernel)
set_option maxRecDepth 20000 in
theorem gX8_leastWith_X3_wordCount : GoodIn wsX8_leastWith (wsV RX8 62 RX3 yX3_wordCount wsX3_wordCount) := goodIn_app (goodIn_of _ (by decide +kernel)) ggX8_leastWith_X3_wordCount
set_option maxRecDepth 20000 in
theorem ggX8_leastWith_X8_bitOf : GoodIn wsX8_leastWith wsX8_bitOf := goodIn_r _ [43, 2, 34, 35, 36, 37, 11, 38, 32, 39, 22, 23, 18, 24, 25, 44, 45, 46, 47, 48, 49, 50, 51, 52, 53, 54, 55] rfl (by decide +kernel)
set_option maxRecDepth 20000 in
theorem gX8_leastWith_X8_bitOf : GoodIn wsX8_leastWith (wsV RX8 65 RX8 yX8_bitOf wsX8_bitOf) := goodIn_app (goodIn_of _ (by decide +kernel)) ggX8_leastWith_X8_bitOf
theorem bdX8_leastWith_0 : (decode cX8_leastWith 0 = .ok (.aload_n 0, 1)) ∧ (decode cX8_leastWith 1 = .ok (.invokevirtual 58, 3)) ∧ (decode cX8_leastWith 4 = .ok (.ldc 61, 2)) ∧ (decode cX8_leastWith 6 = .ok (.istore 4, 2)) ∧ (decode cX8_leastWith 8 = .ok (.iconst 0, 1)) ∧ (decode cX8_leastWith 9 = .ok (.istore 5, 2)) ∧ (decode cX8_leastWith 11 = .ok (.iload 5, 2)) ∧ (decode cX8_leastWith 13 = .ok (.aload_n 0, 1)) ∧ (decode cX8_leastWith 14 = .ok (.getfield 28, 3)) ∧ (decode cX8_leastWith 17 = .ok (.invokevirtual 62, 3)) ∧ (decode cX8_leastWith 20 = .ok (.if_icmp .ge 35, 3)) ∧ (decode cX8_leastWith 23 = .ok (.aload_n 0, 1)) ∧ (decode cX8_leastWith 24 = .ok (.iload 5, 2)) ∧ (decode cX8_leastWith 26 = .ok (.iload_n 1, 1)) ∧ (decode cX8_leastWith 27 = .ok (.iload_n 2, 1)) ∧ (decode cX8_leastWith 28 = .ok (.invokevirtual 65, 3)) := by decide +kernel
theorem dX8_leastWith_0 : decode cX8_leastWith 0 = .ok (.aload_n 0, 1) := bdX8_leastWith_0.1
theorem dX8_leastWith_1 : decode cX8_leastWith 1 = .ok (.invokevirtual 58, 3) := bdX8_leastWith_0.2.1
theorem dX8_leastWith_4 : decode cX8_leastWith 4 = .ok (.ldc 61, 2) := bdX8_leastWith_0.2.2.1
theorem dX8_leastWith_6 : decode cX8_leastWith 6 = .ok (.istore 4, 2) := bdX8_leastWith_0.2.2.2.1
theorem dX8_leastWith_8 : decode cX8_leastWith 8 = .ok (.iconst 0, 1) := bdX8_leastWith_0.2.2.2.2.1
theorem dX8_leastWith_9 : decode cX8_leastWith 9 = .ok (.istore 5, 2) := bdX8_leastWith_0.2.2.2.2.2.1
theorem dX8_leastWith_11 : decode cX8_leastWith 11 = .ok (.iload 5, 2) := bdX8_leastWith_0.2.2.2.2.2.2.1
theorem dX8_leastWith_13 : decode cX8_leastWith 13 = .ok (.aload_n 0, 1) := bdX8_leastWith_0.2.2.2.2.2.2.2.1
theorem dX8_leastWith_14 : decode cX8_leastWith 14 = .ok (.getfield 28, 3) := bdX8_leastWith_0.2.2.2.2.2.2.2.2.1
theorem dX8_leastWith_17 : decode cX8_leastWith 17 = .ok (.invokevirtual 62, 3) := bdX8_leastWith_0.2.2.2.2.2.2.2.2.2.1
theorem dX8_leastWith_20 : decode cX8_leastWith 20 = .ok (.if_icmp .ge 35, 3) := bdX8_leastWith_0.2.2.2.2.2.2.2.2.2.2.1
theorem dX8_leastWith_23 : decode cX8_leastWith 23 = .ok (.aload_n 0, 1) := bdX8_leastWith_0.2.2.2.2.2.2.2.2.2.2.2.1
theorem dX8_leastWith_24 : decode cX8_leastWith 24 = .ok (.iload 5, 2) := bdX8_leastWith_0.2.2.2.2.2.2.2.2.2.2.2.2.1
theorem dX8_leastWith_26 : decode cX8_leastWith 26 = .ok (.iload_n 1, 1) := bdX8_leastWith_0.2.2.2.2.2.2.2.2.2.2.2.2.2.1
theorem dX8_leastWith_27 : decode cX8_leastWith 27 = .ok (.iload_n 2, 1) := bdX8_leastWith_0.2.2.2.2.2.2.2.2.2.2.2.2.2.2.1
theorem dX8_leastWith_28 : decode cX8_leastWith 28 = .ok (.invokevirtual 65, 3) := bdX8_leastWith_0.2.2.2.2.2.2.2.2.2.2.2.2.2.2.2
theorem bdX8_leastWith_31 : (decode cX8_leastWith 31 = .ok (.iload_n 3, 1)) ∧ (decode cX8_leastWith 32 = .ok (.if_icmp .ne 17, 3)) ∧ (decode cX8_leastWith 35 = .ok (.iload 4, 2)) ∧ (decode cX8_leastWith 37 = .ok (.aload_n 0, 1)) ∧ (decode cX8_leastWith 38 = .ok (.getfield 9, 3)) ∧ (decode cX8_leastWith 41 = .ok (.iload 5, 2)) ∧ (decode cX8_leastWith 43 = .ok (.iaload, 1)) ∧ (decode cX8_leastWith 44 = .ok (.invokestatic 69, 3)) ∧ (decode cX8_leastWith 47 = .ok (.istore 4, 2)) ∧ (decode cX8_leastWith 49 = .ok (.iinc 5 1, 3)) ∧ (decode cX8_leastWith 52 = .ok (.goto (-41), 3)) ∧ (decode cX8_leastWith 55 = .ok (.iload 4, 2)) ∧ (decode cX8_leastWith 57 = .ok (.ireturn, 1)) := by decide +kernel
theorem dX8_leastWith_31 : decode cX8_leastWith 31 = .ok (.iload_n 3, 1) := bdX8_leastWith_31.1
theorem dX8_leastWith_32 : decode cX8_leastWith 32 = .ok (.if_icmp .ne 17, 3) := bdX8_leastWith_31.2.1
theorem dX8_leastWith_35 : decode cX8_leastWith 35 = .ok (.iload 4, 2) := bdX8_leastWith_31.2.2.1
theorem dX8_leastWith_37 : decode cX8_leastWith 37 = .ok (.aload_n 0, 1) := bdX8_leastWith_31.2.2.2.1
theorem dX8_leastWith_38 : decode cX8_leastWith 38 = .ok (.getfield 9, 3) := bdX8_leastWith_31.2.2.2.2.1
theorem dX8_leastWith_41 : decode cX8_leastWith 41 = .ok (.iload 5, 2) := bdX8_leastWith_31.2.2.2.2.2.1
theorem dX8_leastWith_43 : decode cX8_leastWith 43 = .ok (.iaload, 1) := bdX8_leastWith_31.2.2.2.2.2.2.1
theorem dX8_leastWith_44 : decode cX8_leastWith 44 = .ok (.invokestatic 69, 3) := bdX8_leastWith_31.2.2.2.2.2.2.2.1
theorem dX8_leastWith_47 : decode cX8_leastWith 47 = .ok (.istore 4, 2) := bdX8_leastWith_31.2.2.2.2.2.2.2.2.1
theorem dX8_leastWith_49 : decode cX8_leastWith 49 = .ok (.iinc 5 1, 3) := bdX8_leastWith_31.2.2.2.2.2.2.2.2.2.1
theorem dX8_leastWith_52 : decode cX8_leastWith 52 = .ok (.goto (-41), 3) := bdX8_leastWith_31.2.2.2.2.2.2.2.2.2.2.1
theorem dX8_leastWith_55 : decode cX8_leastWith 55 = .ok (.iload 4, 2) := bdX8_leastWith_31.2.2.2.2.2.2.2.2.2.2.2.1
theorem dX8_leastWith_57 : decode cX8_leastWith 57 = .ok (.ireturn, 1) := bdX8_leastWith_31.2.2.2.2.2.2.2.2.2.2.2.2
set_option maxHeartbeats 4000000 in
set_option maxRecDepth 100000 in
theorem k_X8_leastWith (l : Launch) (dC : Nat → ClassId) (dI : Nat → Nat → Nat) (h : Nat → Nat) (cs : Nat → ClassId) (sz : Nat) (I : Nat → Int32) (L : Nat → Int64) (A : Nat → Nat → Int32) (Q : Nat → Nat → Int64) (G : Nat → Nat → Nat → Int32) (J : Nat → Nat → Nat → Int64) (cl b v R M a : Nat) (hcl : cl < M) (hb1 : b ≤ 1) (hv1 : v ≤ 1) (hR : I 120 = nI R) (hR1 : 1 ≤ R) (hR5 : R ≤ 5) (hM : I 121 = nI M) (hM1 : 1 ≤ M) (hM4 : M ≤ 4) (ha : I 122 = nI a) (ha2 : a = 2 ∨ a = 4) : Met l yX8_leastWith wsX8_leastWith ({ frames := 4, cells := 0, slots := 0, locals := 88 }) (va_Pc [.ref (h 105), .int (nI cl), .int (nI b), .int (nI v)] (xPre (dC, dI) (wWords h cs I L A Q G J) (tysA cs) sz)) (va_Qi (fun (r : Int32) (u : CS) => ∃ f170 : Nat → Int32, ∃ x173 : Int32, (((I 173 = I 123 ∧ f170 = A 170 ∧ x173 = I 173) ∨ (¬ I 173 = I 123 ∧ x173 = I 123 ∧ ∀ t : Nat, t < a ^ M → f170 t = offC (A 136) (G 0) a M t R)) ∧ r = lwF f170 (bitC a M cl b) v (a ^ M)) ∧ u = ((va_up I 173 x173), L, (va_up A 170 f170), Q, G, J)) (xB (dC, dI) (tysA cs) (va_A (wWords h cs I L A Q G J) sz) (fun u : CS => wWords h cs u.1 u.2.1 u.2.2.1 u.2.2.2.1 u.2.2.2.2.1 u.2.2.2.2.2)) (va_A (wWords h cs I L A Q G J) sz)) 0 0 (va_A (wWords h cs I L A Q G J) sz) := by
  refine Met.ofW (cc := cX8_leastWith) (maxL := 6) (ret := (some .int)) (by decide) rfl ?_
  intro p e s m args below meth c s₁ B hml hv
  obtain ⟨rfl, hsz, hP, hK, hD0, hN⟩ := hv
  have hx := B.exec
  have hb := B.bytes
  have hr := B.returns
  have hts := atoms_spec (ws := wsX8_leastWith) B.pre
  have hown : s.vm.findClass RX8 = some m.cls := findClass_of_methodNamed B.named
  have hlocks := B.notSynchronized
  subst hsz
  have hD := hD0.self (sz := s.heap.size)
  generalize hAe : va_A (wWords h cs I L A Q G J) s.heap.size = A0 at hD ⊢
  have hA : ∀ q : Nat, s.heap.size ≤ q → A0 q := fun q h => by rw [← hAe]; exact Or.inr h
  have hl := lv_entry ([.ref (h 105), .int (nI cl), .int (nI b), .int (nI v)]) (n := 6) (Nat.le_of_ble_eq_true rfl)
  rw [lg_entry_eq]
  generalize (lg_sl ([.ref (h 105), .int (nI cl), .int (nI b), .int (nI v)]) ++ List.replicate (6 - (lg_sl ([.ref (h 105), .int (nI cl), .int (nI b), .int (nI v)])).length) Slot.unset).toArray = ls at hl ⊢
  have hl : lv_has ls 6 [(0, .ref (h 105)), (1, .int (nI cl)), (2, .int (nI b)), (3, .int (nI v))] := hl
  generalize hH : s.heap = H at hP ⊢
  have hS : va_S A0 s.heap H [] := by rw [← hH]; exact va_S.rf
  have hinX8 : ∀ w ∈ wsX80, w ∈ wsX8_leastWith := by decide +kernel
  have hpw : a ^ M ≤ 256 := pw_le ha2 hM4
  refine lv_aload_n hx hb dX8_leastWith_0 rfl (lv_at hl 0 rfl) ?_
  refine xj_v (wc := (wWords h cs I L A Q G J)) (wr := ([] : va_W)) hP hD hS hA [0, 1, 2, 3, 4, 5, 6, 7, 8, 9, 10, 11] [] rfl rfl (by decide +kernel) (by decide +kernel) (va_runV (As := []) (rest := []) ⟨hx, hb, hml, hown, hts⟩ (k_X8_workOutOffs l dC dI h cs H.size I L A Q G J R M a hR (by first | assumption | omega | exact hR1) (by first | assumption | omega | exact hR5) hM (by first | assumption | omega | exact hM1) (by first | assumption | omega | exact hM4) ha (by first | assumption | omega | exact ha2)) (cwV 0 hts gX8_leastWith_X8_workOutOffs rfl rfl rfl (by decide +kernel) ⟨Nat.le_of_ble_eq_true rfl, Nat.le_of_ble_eq_true rfl⟩) (xpV (wc := (wWords h cs I L A Q G J)) hP hD hK hN [0, 1, 2, 3, 4, 5, 6, 7, 8, 9, 10, 11] rfl (by decide) 0 (ci := 8) rfl rfl _) rfl rfl hl.1 rfl (lv_room (Nat.le_of_ble_eq_true rfl)) dX8_leastWith_1 ⟨Nat.zero_le _, Nat.zero_le _⟩) (fun u_1 H locs hw hP hD hS => ?_)
  obtain ⟨f170_3, x173_4, hf_5, rfl⟩ := hw
  have hP : va_P (dC, dI) vwCl (wWords h cs (va_up I 173 x173_4) L (va_up A 170 f170_3) Q G J) H := hP
  have hD : va_D A0 (wWords h cs (va_up I 173 x173_4) L (va_up A 170 f170_3) Q G J) := hD
  refine lv_ldc (v := 10000000) hx hb hown (hts (.constant RX8 61 (10000000)) (by decide +kernel)) dX8_leastWith_4 ?_
  refine xt_i (y := nI 10000000) (rfl) ?_
  refine lv_istore (lv' := [(4, .int (nI 10000000)), (0, .ref (h 105)), (1, .int (nI cl)), (2, .int (nI b)), (3, .int (nI v))]) hx hb dX8_leastWith_6 hl (by decide) rfl (fun ls hl => ?_)
  refine lv_iconst (v := nI 0) hx hb dX8_leastWith_8 (by decide) ?_
  refine lv_istore (lv' := [(5, .int (nI 0)), (4, .int (nI 10000000)), (0, .ref (h 105)), (1, .int (nI cl)), (2, .int (nI b)), (3, .int (nI v))]) hx hb dX8_leastWith_9 hl (by decide) rfl (fun ls hl => ?_)
  have cut_11 : ∀ (nf : Nat) (k : Nat) (z4 : Int32), (a ^ M - k) < nf → (k ≤ a ^ M) → (z4 = lwF f170_3 (bitC a M cl b) v k) → ∀ (H : Heap) (locs : List Loc) (ls : Array Slot), va_P (dC, dI) vwCl (wWords h cs (va_up I 173 x173_4) L (va_up A 170 f170_3) Q G J) H → va_D A0 (wWords h cs (va_up I 173 x173_4) L (va_up A 170 f170_3) Q G J) → va_S A0 s.heap H locs → lv_has ls 6 [(0, .ref (h 105)), (1, .int (nI cl)), (2, .int (nI b)), (3, .int (nI v)), (4, .int z4), (5, .int (nI k))] → W p l e (headSpec wsX8_leastWith ({ frames := 4, cells := 0, slots := 0, locals := 88 })).room s m ([.ref (h 105), .int (nI cl), .int (nI b), .int (nI v)] : List Value).toArray below meth c H locs 0 0 (MQ below (va_Qi (fun (r : Int32) (u : CS) => ∃ f170 : Nat → Int32, ∃ x173 : Int32, (((I 173 = I 123 ∧ f170 = A 170 ∧ x173 = I 173) ∨ (¬ I 173 = I 123 ∧ x173 = I 123 ∧ ∀ t : Nat, t < a ^ M → f170 t = offC (A 136) (G 0) a M t R)) ∧ r = lwF f170 (bitC a M cl b) v (a ^ M)) ∧ u = ((va_up I 173 x173), L, (va_up A 170 f170), Q, G, J)) (xB (dC, dI) (tysA cs) A0 (fun u : CS => wWords h cs u.1 u.2.1 u.2.2.1 u.2.2.2.1 u.2.2.2.2.1 u.2.2.2.2.2)) A0) ([.ref (h 105), .int (nI cl), .int (nI b), .int (nI v)] : List Value).toArray s 0 0 A0) (F0 m 11 ls []) := by
    intro nf
    induction nf with
    | zero => intro k z4 hm; exact absurd hm (Nat.not_lt_zero _)
    | succ nf ih_11 =>
      intro k z4 hm_11 hk_11 hz_11 H locs ls hP hD hS hl
      refine lv_iload hx hb dX8_leastWith_11 (lv_at hl 5 rfl) ?_
      refine lv_aload_n hx hb dX8_leastWith_13 rfl (lv_at hl 0 rfl) ?_
      refine va_get (D := (dC, dI)) (ci := 8) (v := .ref (h 101)) (C := RX8) (T := TX8) (N := 6) hx hb hts hinX8 hown hK hP 0 rfl rfl 0 (by decide) (hts (.fieldLink RX8 28 "MixedWords$Words" "mix" "LMixedWords$Mix;") (by decide +kernel)) (fun _ h9 => h9) rfl dX8_leastWith_14 ?_
      refine xj_i (wc := (wMix h cs (va_up I 173 x173_4) L (va_up A 170 f170_3) Q G J)) (wr := [(h 105, .inr (8, [.ref (h 101), .ref (h 170), .ref (h 171), .ref (h 172), .int (x173_4), .int (I 174)])), (h 170, .inl (cs 0, 256, .inl f170_3)), (h 171, .inl (cs 0, 256, .inl (A 171))), (h 172, .inl (cs 0, 256, .inl (A 172)))]) hP hD hS hA [4, 5, 6, 7, 8, 9, 10, 11] [0, 1, 2, 3] rfl rfl (by decide +kernel) (by decide +kernel) (va_runV (As := []) (rest := [.int (nI k)]) ⟨hx, hb, hml, hown, hts⟩ (k_X3_wordCount l dC dI h cs H.size (va_up I 173 x173_4) L (va_up A 170 f170_3) Q G J M a hM (by first | assumption | omega | exact hM1) (by first | assumption | omega | exact hM4) ha (by first | assumption | omega | exact ha2)) (cwV 0 hts gX8_leastWith_X3_wordCount rfl rfl rfl (by decide +kernel) ⟨Nat.le_of_ble_eq_true rfl, Nat.le_of_ble_eq_true rfl⟩) (xpV (wc := (wMix h cs (va_up I 173 x173_4) L (va_up A 170 f170_3) Q G J)) hP hD hK hN [4, 5, 6, 7, 8, 9, 10, 11] rfl (by decide) 4 (ci := 3) rfl rfl _) rfl rfl hl.1 rfl (lv_room (Nat.le_of_ble_eq_true rfl)) dX8_leastWith_17 ⟨Nat.zero_le _, Nat.zero_le _⟩) (fun r_7 u_6 H locs hw hP hD hS => ?_)
      obtain ⟨hf_8, rfl⟩ := hw
      have hP : va_P (dC, dI) vwCl (wWords h cs (va_up I 173 x173_4) L (va_up A 170 f170_3) Q G J) H := hP
      have hD : va_D A0 (wWords h cs (va_up I 173 x173_4) L (va_up A 170 f170_3) Q G J) := hD
      obtain rfl := hf_8
      refine xn_ge (tgt := 55) hx hb dX8_leastWith_20 (by decide) (by omega) (by omega) (fun c_20_8 => ?_) (fun c_20_8 => ?_)
      · skip
        refine lv_iload hx hb dX8_leastWith_55 (lv_at hl 4 rfl) ?_
        exact xr_i (v := z4) hx hb hr hlocks hK hS dX8_leastWith_57 ((va_up I 173 x173_4), L, (va_up A 170 f170_3), Q, G, J) ⟨f170_3, x173_4, ⟨hf_5, by rw [hz_11, show k = a ^ M by omega]⟩, rfl⟩ hP hD
      · skip
        refine lv_aload_n hx hb dX8_leastWith_23 rfl (lv_at hl 0 rfl) ?_
        refine lv_iload hx hb dX8_leastWith_24 (lv_at hl 5 rfl) ?_
        refine lv_iload_n hx hb dX8_leastWith_26 rfl (lv_at hl 1 rfl) ?_
        refine lv_iload_n hx hb dX8_leastWith_27 rfl (lv_at hl 2 rfl) ?_
        refine xj_i (wc := (wWords h cs (va_up I 173 x173_4) L (va_up A 170 f170_3) Q G J)) (wr := ([] : va_W)) hP hD hS hA [0, 1, 2, 3, 4, 5, 6, 7, 8, 9, 10, 11] [] rfl rfl (by decide +kernel) (by decide +kernel) (va_runV (As := [.int (nI k), .int (nI cl), .int (nI b)]) (rest := []) ⟨hx, hb, hml, hown, hts⟩ (k_X8_bitOf l dC dI h cs H.size (va_up I 173 x173_4) L (va_up A 170 f170_3) Q G J k cl b M a (by first | assumption | omega) (by first | assumption | omega | exact hcl) (by first | assumption | omega | exact hb1) hM (by first | assumption | omega | exact hM1) (by first | assumption | omega | exact hM4) ha (by first | assumption | omega | exact ha2)) (cwV 3 hts gX8_leastWith_X8_bitOf rfl rfl rfl (by decide +kernel) ⟨Nat.le_of_ble_eq_true rfl, Nat.le_of_ble_eq_true rfl⟩) (xpV (wc := (wWords h cs (va_up I 173 x173_4) L (va_up A 170 f170_3) Q G J)) hP hD hK hN [0, 1, 2, 3, 4, 5, 6, 7, 8, 9, 10, 11] rfl (by decide) 0 (ci := 8) rfl rfl _) rfl rfl hl.1 rfl (lv_room (Nat.le_of_ble_eq_true rfl)) dX8_leastWith_28 ⟨Nat.zero_le _, Nat.zero_le _⟩) (fun r_11 u_10 H locs hw hP hD hS => ?_)
        obtain ⟨hf_12, rfl⟩ := hw
        have hP : va_P (dC, dI) vwCl (wWords h cs (va_up I 173 x173_4) L (va_up A 170 f170_3) Q G J) H := hP
        have hD : va_D A0 (wWords h cs (va_up I 173 x173_4) L (va_up A 170 f170_3) Q G J) := hD
        obtain rfl := hf_12
        have hbn : bitN a (k / a ^ (M - 1 - cl) % a) b < 4 := bitN_lt ha2 (Nat.mod_lt _ (by omega))
        refine lv_iload_n hx hb dX8_leastWith_31 rfl (lv_at hl 3 rfl) ?_
        refine xn_ne (tgt := 49) hx hb dX8_leastWith_32 (by decide) (by omega) (by omega) (fun c_32_12 => ?_) (fun c_32_12 => ?_)
        · skip
          refine lv_iinc (v := nI (k + 1)) (lv' := [(5, .int (nI (k + 1))), (0, .ref (h 105)), (1, .int (nI cl)), (2, .int (nI b)), (3, .int (nI v)), (4, .int z4)]) hx hb dX8_leastWith_49 hl (k := 5) rfl (nI_1 _) (by decide) rfl (fun ls hl => ?_)
          refine lv_goto (tgt := 11) hx hb dX8_leastWith_52 (by decide) ?_
          exact ih_11 (k + 1) z4 (by omega) (by first | assumption | omega) (by first | rfl | exact lw_y hz_11 (by assumption) | exact lw_n hz_11 (by assumption)) _ _ _ hP hD hS (lv_sub hl [1, 2, 3, 4, 5, 0] rfl)
        · skip
          refine lv_iload hx hb dX8_leastWith_35 (lv_at hl 4 rfl) ?_
          refine lv_aload_n hx hb dX8_leastWith_37 rfl (lv_at hl 0 rfl) ?_
          refine va_get (D := (dC, dI)) (ci := 8) (v := .ref (h 170)) (C := RX8) (T := TX8) (N := 6) hx hb hts hinX8 hown hK hP 0 rfl rfl 1 (by decide) (hts (.fieldLink RX8 9 "MixedWords$Words" "offs" "[I") (by decide +kernel)) (fun _ h9 => h9) rfl dX8_leastWith_38 ?_
          refine lv_iload hx hb dX8_leastWith_41 (lv_at hl 5 rfl) ?_
          refine xa_iald hx hb hK hP 1 0 rfl rfl (by omega) (by decide) dX8_leastWith_43 ?_
          refine va_mmin hx hb (hml.trans hl.1.symm) hown (hts (.methodLink RX8 69 Lib.Math.min.name) (by decide +kernel)) (hts (.static Lib.Math.min.name) (by decide +kernel)) (hts (.initialized "java/lang/Math") (by decide +kernel)) (hts (.code Lib.Math.min.name Lib.Math.min.code 2 (some .int)) (by decide +kernel)) (Nat.le_of_ble_eq_true rfl) (Nat.le_of_ble_eq_true rfl) (Nat.zero_le _) (Nat.zero_le _) dX8_leastWith_44 ?_
          refine lv_istore (lv' := [(4, .int (if f170_3 k < z4 then f170_3 k else z4)), (0, .ref (h 105)), (1, .int (nI cl)), (2, .int (nI b)), (3, .int (nI v)), (5, .int (nI k))]) hx hb dX8_leastWith_47 hl (by decide) rfl (fun ls hl => ?_)
          refine lv_iinc (v := nI (k + 1)) (lv' := [(5, .int (nI (k + 1))), (4, .int (if f170_3 k < z4 then f170_3 k else z4)), (0, .ref (h 105)), (1, .int (nI cl)), (2, .int (nI b)), (3, .int (nI v))]) hx hb dX8_leastWith_49 hl (k := 5) rfl (nI_1 _) (by decide) rfl (fun ls hl => ?_)
          refine lv_goto (tgt := 11) hx hb dX8_leastWith_52 (by decide) ?_
          exact ih_11 (k + 1) (if f170_3 k < z4 then f170_3 k else z4) (by omega) (by first | assumption | omega) (by first | rfl | exact lw_y hz_11 (by assumption) | exact lw_n hz_11 (by assumption)) _ _ _ hP hD hS (lv_sub hl [2, 3, 4, 5, 1, 0] rfl)
  exact cut_11 _ 0 (nI 10000000) (Nat.lt_succ_self _) (by first | assumption | omega) (by first | rfl | exact lw_y hz_11 (by assumption) | exact lw_n hz_11 (by assumption)) _ _ _ hP hD hS (lv_sub hl [2, 3, 4, 5, 1, 0] rfl)
