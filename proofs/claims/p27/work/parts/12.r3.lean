
theorem le_nI {x : Int32} {n : Nat} (hn : n < 2147483648) (h0 : 0 ≤ x) (h : x ≤ nI n) : ∃ j : Nat, j ≤ n ∧ x = nI j := nI_of2 (nI_toInt hn) (Int32.not_lt.mpr h0) h
theorem fill_0 {f : Nat → Int32} {a : Nat} {v : Int32} : ∀ t : Nat, t < 0 → f (a + t) = v := fun t h => absurd h (Nat.not_lt_zero t)
theorem fill_s {f : Nat → Int32} {a k : Nat} {v : Int32} (h : ∀ t : Nat, t < k → f (a + t) = v) : ∀ t : Nat, t < k + 1 → upd f (a + k) v (a + t) = v := fun t ht => by
  by_cases e : t = k
  · subst e
    exact pk_us
  · rw [pk_un (by omega)]
    exact h t (by omega)
theorem fill_o {f g : Nat → Int32} {a k n : Nat} {v : Int32} (hk : k < n) (h : ∀ t : Nat, (t < a ∨ a + n ≤ t) → f t = g t) : ∀ t : Nat, (t < a ∨ a + n ≤ t) → upd f (a + k) v t = g t := fun t ht => by
  rw [pk_un (by omega)]
  exact h t ht

theorem sz_L {x : Int32} {n : Nat} (hn : n ≤ 25) (h : x = nI n) : (x - nI 1).toInt64.toInt = (n : Int) - 1 := by
  rw [Int32.toInt_toInt64, h, pk_sub_toInt (by omega) (by decide)]
  rfl

/-- an item that may stand at place k of a table of M columns with what is heard behind -/
def okv (M k : Nat) (v : Int32) : Prop := if k % (M + 1) = M then -999 ≤ v.toInt ∧ v.toInt ≤ 999 else -9 ≤ v.toInt ∧ v.toInt ≤ 9
theorem rows_at {z w : Int32} {T n : Nat} (hT : T ≤ 25) (hn : n ≤ 25) (h0 : ¬ z < 0) (hw : w = nI n) (h : z.toInt64 + (nI T).toInt64 ≤ w.toInt64) : ∃ k : Nat, k + T ≤ n ∧ z = nI k := by
  have h1 : 0 ≤ z.toInt := Int32.le_iff_toInt_le.mp (Int32.not_lt.mp h0)
  have h2 := Int32.toInt_lt z
  obtain ⟨e, -⟩ := nI_at h1
  have h3 := Int64.le_iff_toInt_le.mp h
  rw [Int64.toInt_add, Int32.toInt_toInt64, Int32.toInt_toInt64, Int32.toInt_toInt64, hw, nI_toInt (by omega), nI_toInt (by omega)] at h3
  have h4 : (z.toInt + (T : Int)).bmod (2 ^ 64) = z.toInt + T := Int.bmod_eq_of_le (by omega) (by omega)
  rw [h4] at h3
  exact ⟨z.toInt.toNat, by omega, e⟩
theorem rows_no {z w : Int32} {T n : Nat} (hT : T ≤ 25) (hn : n ≤ 25) (hw : w = nI n) (h : ¬ z.toInt64 + (nI T).toInt64 ≤ w.toInt64) (k : Nat) (hk : k + T ≤ n) (e : z = nI k) : False := by
  apply h
  rw [Int64.le_iff_toInt_le, Int64.toInt_add, Int32.toInt_toInt64, Int32.toInt_toInt64, Int32.toInt_toInt64, hw, e, nI_toInt (by omega), nI_toInt (by omega), nI_toInt (by omega)]
  rw [Int.bmod_eq_of_le (by omega) (by omega)]
  omega
theorem neg999 : (-nI 999).toInt64.toInt = -999 := by decide
theorem neg9 : (-nI 9).toInt64.toInt = -9 := by decide
theorem plc_inj {M a b : Nat} (hM : M ≤ 4) (h : plc M (a / (M + 1)) (a % (M + 1)) = plc M (b / (M + 1)) (b % (M + 1))) : a = b := by
  have ha := Nat.mod_lt a (show 0 < M + 1 by omega)
  have hb := Nat.mod_lt b (show 0 < M + 1 by omega)
  have ea := Nat.div_add_mod a (M + 1)
  have eb := Nat.div_add_mod b (M + 1)
  unfold plc at h
  have h1 : (if a % (M + 1) = M then 4 else a % (M + 1)) ≤ 4 := by split <;> omega
  have h2 : (if b % (M + 1) = M then 4 else b % (M + 1)) ≤ 4 := by split <;> omega
  have h3 : a / (M + 1) = b / (M + 1) := by omega
  have h4 : a % (M + 1) = b % (M + 1) := by
    have h5 : (if a % (M + 1) = M then 4 else a % (M + 1)) = (if b % (M + 1) = M then 4 else b % (M + 1)) := by omega
    by_cases p : a % (M + 1) = M <;> by_cases q : b % (M + 1) = M
    · omega
    · rw [if_pos p, if_neg q] at h5; omega
    · rw [if_neg p, if_pos q] at h5; omega
    · rw [if_neg p, if_neg q] at h5; exact h5
  rw [← ea, ← eb, h3, h4]
theorem rows_s {M k : Nat} {g it : Nat → Int32} {b : Nat} (hM : M ≤ 4) (h : ∀ t : Nat, t < k → g (plc M (t / (M + 1)) (t % (M + 1))) = it (b + t)) : ∀ t : Nat, t < k + 1 → upd g (plc M (k / (M + 1)) (k % (M + 1))) (it (b + k)) (plc M (t / (M + 1)) (t % (M + 1))) = it (b + t) := fun t ht => by
  by_cases e : t = k
  · subst e
    exact pk_us
  · rw [pk_un (fun q => e (plc_inj hM q))]
    exact h t (by omega)
theorem ok_s {M k : Nat} {it : Nat → Int32} {b : Nat} (h : ∀ t : Nat, t < k → okv M t (it (b + t))) (hk : okv M k (it (b + k))) : ∀ t : Nat, t < k + 1 → okv M t (it (b + t)) := fun t ht => by
  by_cases e : t = k
  · subst e
    exact hk
  · exact h t (by omega)
set_option maxRecDepth 20000 in
theorem ggX10_isSheet_X10_in : GoodIn wsX10_isSheet wsX10_in := goodIn_r _ [5] rfl (by decide +kernel)
set_option maxRecDepth 20000 in
theorem gX10_isSheet_X10_in : GoodIn wsX10_isSheet (va_wsS RX10 77 yX10_in wsX10_in) := goodIn_app (goodIn_of _ (by decide +kernel)) ggX10_isSheet_X10_in
theorem bdX10_isSheet_0 : (decode cX10_isSheet 0 = .ok (.iload_n 0, 1)) ∧ (decode cX10_isSheet 1 = .ok (.i2l, 1)) ∧ (decode cX10_isSheet 2 = .ok (.lconst 0, 1)) ∧ (decode cX10_isSheet 3 = .ok (.ldc2_w 239, 3)) ∧ (decode cX10_isSheet 6 = .ok (.invokestatic 77, 3)) ∧ (decode cX10_isSheet 9 = .ok (.ireturn, 1)) := by decide +kernel
theorem dX10_isSheet_0 : decode cX10_isSheet 0 = .ok (.iload_n 0, 1) := bdX10_isSheet_0.1
theorem dX10_isSheet_1 : decode cX10_isSheet 1 = .ok (.i2l, 1) := bdX10_isSheet_0.2.1
theorem dX10_isSheet_2 : decode cX10_isSheet 2 = .ok (.lconst 0, 1) := bdX10_isSheet_0.2.2.1
theorem dX10_isSheet_3 : decode cX10_isSheet 3 = .ok (.ldc2_w 239, 3) := bdX10_isSheet_0.2.2.2.1
theorem dX10_isSheet_6 : decode cX10_isSheet 6 = .ok (.invokestatic 77, 3) := bdX10_isSheet_0.2.2.2.2.1
theorem dX10_isSheet_9 : decode cX10_isSheet 9 = .ok (.ireturn, 1) := bdX10_isSheet_0.2.2.2.2.2
set_option maxHeartbeats 4000000 in
set_option maxRecDepth 100000 in
theorem k_X10_isSheet (l : Launch) (dC : Nat → ClassId) (dI : Nat → Nat → Nat) (h : Nat → Nat) (cs : Nat → ClassId) (sz : Nat) (I : Nat → Int32) (L : Nat → Int64) (A : Nat → Nat → Int32) (Q : Nat → Nat → Int64) (x : Int32) : Met l yX10_isSheet wsX10_isSheet ({ frames := 1, cells := 0, slots := 0, locals := 25 }) (va_Pc [.int x] (xPre (dC, dI) ([] : va_W) (tysA cs) sz)) (va_Qi (fun (r : Int32) (u : RS) => ((r = nI 1 ∧ ∃ i : Nat, i < 4 ∧ x = nI i) ∨ (r = nI 0 ∧ ∀ i : Nat, i < 4 → x ≠ nI i)) ∧ u = (I, L, A, Q)) (xB (dC, dI) (tysA cs) (va_A ([] : va_W) sz) (fun _ : RS => ([] : va_W))) (va_A ([] : va_W) sz)) 0 0 (va_A ([] : va_W) sz) := by
  refine Met.ofW (cc := cX10_isSheet) (maxL := 1) (ret := (some .boolean)) (by decide) rfl ?_
  intro p e s m args below meth c s₁ B hml hv
  obtain ⟨rfl, hsz, hP, hK, hD0, hN⟩ := hv
  have hx := B.exec
  have hb := B.bytes
  have hr := B.returns
  have hts := atoms_spec (ws := wsX10_isSheet) B.pre
  have hown : s.vm.findClass RX10 = some m.cls := findClass_of_methodNamed B.named
  have hlocks := B.notSynchronized
  subst hsz
  have hD := hD0.self (sz := s.heap.size)
  generalize hAe : va_A ([] : va_W) s.heap.size = A0 at hD ⊢
  have hA : ∀ q : Nat, s.heap.size ≤ q → A0 q := fun q h => by rw [← hAe]; exact Or.inr h
  have hl := lv_entry ([.int x]) (n := 1) (Nat.le_of_ble_eq_true rfl)
  rw [lg_entry_eq]
  generalize (lg_sl ([.int x]) ++ List.replicate (1 - (lg_sl ([.int x])).length) Slot.unset).toArray = ls at hl ⊢
  have hl : lv_has ls 1 [(0, .int x)] := hl
  generalize hH : s.heap = H at hP ⊢
  have hS : va_S A0 s.heap H [] := by rw [← hH]; exact va_S.rf
  refine lv_iload_n hx hb dX10_isSheet_0 rfl (lv_at hl 0 rfl) ?_
  refine lv_i2l (v := x.toInt64) hx hb dX10_isSheet_1 rfl ?_
  refine lv_lconst (v := 0) hx hb dX10_isSheet_2 rfl ?_
  refine lv_ldc2 (v := 3) hx hb hown (hts (.constantLong RX10 239 (3)) (by decide +kernel)) dX10_isSheet_3 ?_
  refine xj_i (wc := ([] : va_W)) (wr := ([] : va_W)) hP hD hS hA [] [] rfl rfl (by decide +kernel) (by decide +kernel) (va_runS (As := [.long x.toInt64, .long (0 : Int64), .long (3 : Int64)]) (rest := []) ⟨hx, hb, hml, hown, hts⟩ (k_X10_in l dC dI h cs H.size I L A Q x.toInt64 (0 : Int64) (3 : Int64)) (va_cwS 3 hts gX10_isSheet_X10_in rfl rfl rfl (by decide +kernel) ⟨Nat.le_of_ble_eq_true rfl, Nat.le_of_ble_eq_true rfl⟩) (xpS (wc := ([] : va_W)) hP hD hK hN [] rfl (by decide) _) rfl rfl hl.1 rfl (lv_room (Nat.le_of_ble_eq_true rfl)) dX10_isSheet_6 ⟨Nat.zero_le _, Nat.zero_le _⟩) (fun r_2 u_1 H locs hw hP hD hS => ?_)
  obtain ⟨hf_3, rfl⟩ := hw
  have hq : (r_2 = nI 1 ∧ ∃ i : Nat, i < 4 ∧ x = nI i) ∨ (r_2 = nI 0 ∧ ∀ i : Nat, i < 4 → x ≠ nI i) := by
    rcases in_N (a := 0) (b := 3) rfl rfl hf_3 with ⟨h1, i, h2, h3, h4⟩ | ⟨h1, h2⟩
    · exact Or.inl ⟨h1, i, by omega, h4⟩
    · exact Or.inr ⟨h1, fun i hi => h2 i (by omega) (by omega) (by omega)⟩
  exact xr_z (v := r_2) hx hb hr hlocks hK hS dX10_isSheet_9 (by rcases hq with ⟨e, -⟩ | ⟨e, -⟩ <;> (rw [e]; rfl)) (I, L, A, Q) ⟨hq, rfl⟩ hP hD
set_option maxRecDepth 20000 in
theorem ggX10_isLane_X10_in : GoodIn wsX10_isLane wsX10_in := goodIn_r _ [5] rfl (by decide +kernel)
set_option maxRecDepth 20000 in
theorem gX10_isLane_X10_in : GoodIn wsX10_isLane (va_wsS RX10 77 yX10_in wsX10_in) := goodIn_app (goodIn_of _ (by decide +kernel)) ggX10_isLane_X10_in
theorem bdX10_isLane_0 : (decode cX10_isLane 0 = .ok (.iload_n 0, 1)) ∧ (decode cX10_isLane 1 = .ok (.i2l, 1)) ∧ (decode cX10_isLane 2 = .ok (.lconst 0, 1)) ∧ (decode cX10_isLane 3 = .ok (.ldc2_w 233, 3)) ∧ (decode cX10_isLane 6 = .ok (.invokestatic 77, 3)) ∧ (decode cX10_isLane 9 = .ok (.ireturn, 1)) := by decide +kernel
theorem dX10_isLane_0 : decode cX10_isLane 0 = .ok (.iload_n 0, 1) := bdX10_isLane_0.1
theorem dX10_isLane_1 : decode cX10_isLane 1 = .ok (.i2l, 1) := bdX10_isLane_0.2.1
theorem dX10_isLane_2 : decode cX10_isLane 2 = .ok (.lconst 0, 1) := bdX10_isLane_0.2.2.1
theorem dX10_isLane_3 : decode cX10_isLane 3 = .ok (.ldc2_w 233, 3) := bdX10_isLane_0.2.2.2.1
theorem dX10_isLane_6 : decode cX10_isLane 6 = .ok (.invokestatic 77, 3) := bdX10_isLane_0.2.2.2.2.1
theorem dX10_isLane_9 : decode cX10_isLane 9 = .ok (.ireturn, 1) := bdX10_isLane_0.2.2.2.2.2
set_option maxHeartbeats 4000000 in
set_option maxRecDepth 100000 in
theorem k_X10_isLane (l : Launch) (dC : Nat → ClassId) (dI : Nat → Nat → Nat) (h : Nat → Nat) (cs : Nat → ClassId) (sz : Nat) (I : Nat → Int32) (L : Nat → Int64) (A : Nat → Nat → Int32) (Q : Nat → Nat → Int64) (x : Int32) : Met l yX10_isLane wsX10_isLane ({ frames := 1, cells := 0, slots := 0, locals := 25 }) (va_Pc [.int x] (xPre (dC, dI) ([] : va_W) (tysA cs) sz)) (va_Qi (fun (r : Int32) (u : RS) => ((r = nI 1 ∧ ∃ i : Nat, i < 3 ∧ x = nI i) ∨ (r = nI 0 ∧ ∀ i : Nat, i < 3 → x ≠ nI i)) ∧ u = (I, L, A, Q)) (xB (dC, dI) (tysA cs) (va_A ([] : va_W) sz) (fun _ : RS => ([] : va_W))) (va_A ([] : va_W) sz)) 0 0 (va_A ([] : va_W) sz) := by
  refine Met.ofW (cc := cX10_isLane) (maxL := 1) (ret := (some .boolean)) (by decide) rfl ?_
  intro p e s m args below meth c s₁ B hml hv
  obtain ⟨rfl, hsz, hP, hK, hD0, hN⟩ := hv
  have hx := B.exec
  have hb := B.bytes
  have hr := B.returns
  have hts := atoms_spec (ws := wsX10_isLane) B.pre
  have hown : s.vm.findClass RX10 = some m.cls := findClass_of_methodNamed B.named
  have hlocks := B.notSynchronized
  subst hsz
  have hD := hD0.self (sz := s.heap.size)
  generalize hAe : va_A ([] : va_W) s.heap.size = A0 at hD ⊢
  have hA : ∀ q : Nat, s.heap.size ≤ q → A0 q := fun q h => by rw [← hAe]; exact Or.inr h
  have hl := lv_entry ([.int x]) (n := 1) (Nat.le_of_ble_eq_true rfl)
  rw [lg_entry_eq]
  generalize (lg_sl ([.int x]) ++ List.replicate (1 - (lg_sl ([.int x])).length) Slot.unset).toArray = ls at hl ⊢
  have hl : lv_has ls 1 [(0, .int x)] := hl
  generalize hH : s.heap = H at hP ⊢
  have hS : va_S A0 s.heap H [] := by rw [← hH]; exact va_S.rf
  refine lv_iload_n hx hb dX10_isLane_0 rfl (lv_at hl 0 rfl) ?_
  refine lv_i2l (v := x.toInt64) hx hb dX10_isLane_1 rfl ?_
  refine lv_lconst (v := 0) hx hb dX10_isLane_2 rfl ?_
  refine lv_ldc2 (v := 2) hx hb hown (hts (.constantLong RX10 233 (2)) (by decide +kernel)) dX10_isLane_3 ?_
  refine xj_i (wc := ([] : va_W)) (wr := ([] : va_W)) hP hD hS hA [] [] rfl rfl (by decide +kernel) (by decide +kernel) (va_runS (As := [.long x.toInt64, .long (0 : Int64), .long (2 : Int64)]) (rest := []) ⟨hx, hb, hml, hown, hts⟩ (k_X10_in l dC dI h cs H.size I L A Q x.toInt64 (0 : Int64) (2 : Int64)) (va_cwS 3 hts gX10_isLane_X10_in rfl rfl rfl (by decide +kernel) ⟨Nat.le_of_ble_eq_true rfl, Nat.le_of_ble_eq_true rfl⟩) (xpS (wc := ([] : va_W)) hP hD hK hN [] rfl (by decide) _) rfl rfl hl.1 rfl (lv_room (Nat.le_of_ble_eq_true rfl)) dX10_isLane_6 ⟨Nat.zero_le _, Nat.zero_le _⟩) (fun r_2 u_1 H locs hw hP hD hS => ?_)
  obtain ⟨hf_3, rfl⟩ := hw
  have hq : (r_2 = nI 1 ∧ ∃ i : Nat, i < 3 ∧ x = nI i) ∨ (r_2 = nI 0 ∧ ∀ i : Nat, i < 3 → x ≠ nI i) := by
    rcases in_N (a := 0) (b := 2) rfl rfl hf_3 with ⟨h1, i, h2, h3, h4⟩ | ⟨h1, h2⟩
    · exact Or.inl ⟨h1, i, by omega, h4⟩
    · exact Or.inr ⟨h1, fun i hi => h2 i (by omega) (by omega) (by omega)⟩
  exact xr_z (v := r_2) hx hb hr hlocks hK hS dX10_isLane_9 (by rcases hq with ⟨e, -⟩ | ⟨e, -⟩ <;> (rw [e]; rfl)) (I, L, A, Q) ⟨hq, rfl⟩ hP hD
set_option maxRecDepth 20000 in
theorem ggX10_sheet_X10_isSheet : GoodIn wsX10_sheet wsX10_isSheet := goodIn_r _ [7, 8, 9, 10, 6, 11] rfl (by decide +kernel)
set_option maxRecDepth 20000 in
theorem gX10_sheet_X10_isSheet : GoodIn wsX10_sheet (va_wsS RX10 241 yX10_isSheet wsX10_isSheet) := goodIn_app (goodIn_of _ (by decide +kernel)) ggX10_sheet_X10_isSheet
set_option maxRecDepth 20000 in
theorem ggX10_sheet_X10_isLane : GoodIn wsX10_sheet wsX10_isLane := goodIn_r _ [14, 15, 9, 10, 6, 11] rfl (by decide +kernel)
set_option maxRecDepth 20000 in
theorem gX10_sheet_X10_isLane : GoodIn wsX10_sheet (va_wsS RX10 244 yX10_isLane wsX10_isLane) := goodIn_app (goodIn_of _ (by decide +kernel)) ggX10_sheet_X10_isLane
theorem bdX10_sheet_0 : (decode cX10_sheet 0 = .ok (.iload_n 1, 1)) ∧ (decode cX10_sheet 1 = .ok (.invokestatic 241, 3)) ∧ (decode cX10_sheet 4 = .ok (.ifCond .eq 16, 3)) ∧ (decode cX10_sheet 7 = .ok (.iload_n 2, 1)) ∧ (decode cX10_sheet 8 = .ok (.invokestatic 244, 3)) ∧ (decode cX10_sheet 11 = .ok (.ifCond .eq 9, 3)) ∧ (decode cX10_sheet 14 = .ok (.iload_n 3, 1)) ∧ (decode cX10_sheet 15 = .ok (.bipush 25, 2)) ∧ (decode cX10_sheet 17 = .ok (.if_icmp .le 5, 3)) ∧ (decode cX10_sheet 20 = .ok (.iconst (-1), 1)) ∧ (decode cX10_sheet 21 = .ok (.ireturn, 1)) ∧ (decode cX10_sheet 22 = .ok (.iload_n 3, 1)) ∧ (decode cX10_sheet 23 = .ok (.ifCond .ge 6, 3)) ∧ (decode cX10_sheet 26 = .ok (.bipush (-14), 2)) ∧ (decode cX10_sheet 28 = .ok (.ireturn, 1)) ∧ (decode cX10_sheet 29 = .ok (.aload_n 0, 1)) := by decide +kernel
theorem dX10_sheet_0 : decode cX10_sheet 0 = .ok (.iload_n 1, 1) := bdX10_sheet_0.1
theorem dX10_sheet_1 : decode cX10_sheet 1 = .ok (.invokestatic 241, 3) := bdX10_sheet_0.2.1
theorem dX10_sheet_4 : decode cX10_sheet 4 = .ok (.ifCond .eq 16, 3) := bdX10_sheet_0.2.2.1
theorem dX10_sheet_7 : decode cX10_sheet 7 = .ok (.iload_n 2, 1) := bdX10_sheet_0.2.2.2.1
theorem dX10_sheet_8 : decode cX10_sheet 8 = .ok (.invokestatic 244, 3) := bdX10_sheet_0.2.2.2.2.1
theorem dX10_sheet_11 : decode cX10_sheet 11 = .ok (.ifCond .eq 9, 3) := bdX10_sheet_0.2.2.2.2.2.1
theorem dX10_sheet_14 : decode cX10_sheet 14 = .ok (.iload_n 3, 1) := bdX10_sheet_0.2.2.2.2.2.2.1
theorem dX10_sheet_15 : decode cX10_sheet 15 = .ok (.bipush 25, 2) := bdX10_sheet_0.2.2.2.2.2.2.2.1
theorem dX10_sheet_17 : decode cX10_sheet 17 = .ok (.if_icmp .le 5, 3) := bdX10_sheet_0.2.2.2.2.2.2.2.2.1
theorem dX10_sheet_20 : decode cX10_sheet 20 = .ok (.iconst (-1), 1) := bdX10_sheet_0.2.2.2.2.2.2.2.2.2.1
theorem dX10_sheet_21 : decode cX10_sheet 21 = .ok (.ireturn, 1) := bdX10_sheet_0.2.2.2.2.2.2.2.2.2.2.1
theorem dX10_sheet_22 : decode cX10_sheet 22 = .ok (.iload_n 3, 1) := bdX10_sheet_0.2.2.2.2.2.2.2.2.2.2.2.1
theorem dX10_sheet_23 : decode cX10_sheet 23 = .ok (.ifCond .ge 6, 3) := bdX10_sheet_0.2.2.2.2.2.2.2.2.2.2.2.2.1
theorem dX10_sheet_26 : decode cX10_sheet 26 = .ok (.bipush (-14), 2) := bdX10_sheet_0.2.2.2.2.2.2.2.2.2.2.2.2.2.1
theorem dX10_sheet_28 : decode cX10_sheet 28 = .ok (.ireturn, 1) := bdX10_sheet_0.2.2.2.2.2.2.2.2.2.2.2.2.2.2.1
theorem dX10_sheet_29 : decode cX10_sheet 29 = .ok (.aload_n 0, 1) := bdX10_sheet_0.2.2.2.2.2.2.2.2.2.2.2.2.2.2.2
theorem bdX10_sheet_30 : (decode cX10_sheet 30 = .ok (.getfield 60, 3)) ∧ (decode cX10_sheet 33 = .ok (.iload_n 1, 1)) ∧ (decode cX10_sheet 34 = .ok (.iload_n 2, 1)) ∧ (decode cX10_sheet 35 = .ok (.iastore, 1)) ∧ (decode cX10_sheet 36 = .ok (.aload_n 0, 1)) ∧ (decode cX10_sheet 37 = .ok (.getfield 63, 3)) ∧ (decode cX10_sheet 40 = .ok (.iload_n 1, 1)) ∧ (decode cX10_sheet 41 = .ok (.iload_n 3, 1)) ∧ (decode cX10_sheet 42 = .ok (.iastore, 1)) ∧ (decode cX10_sheet 43 = .ok (.iconst 0, 1)) ∧ (decode cX10_sheet 44 = .ok (.istore 4, 2)) ∧ (decode cX10_sheet 46 = .ok (.iload 4, 2)) ∧ (decode cX10_sheet 48 = .ok (.bipush 25, 2)) ∧ (decode cX10_sheet 50 = .ok (.if_icmp .ge 22, 3)) ∧ (decode cX10_sheet 53 = .ok (.aload_n 0, 1)) ∧ (decode cX10_sheet 54 = .ok (.getfield 66, 3)) := by decide +kernel
theorem dX10_sheet_30 : decode cX10_sheet 30 = .ok (.getfield 60, 3) := bdX10_sheet_30.1
theorem dX10_sheet_33 : decode cX10_sheet 33 = .ok (.iload_n 1, 1) := bdX10_sheet_30.2.1
theorem dX10_sheet_34 : decode cX10_sheet 34 = .ok (.iload_n 2, 1) := bdX10_sheet_30.2.2.1
theorem dX10_sheet_35 : decode cX10_sheet 35 = .ok (.iastore, 1) := bdX10_sheet_30.2.2.2.1
theorem dX10_sheet_36 : decode cX10_sheet 36 = .ok (.aload_n 0, 1) := bdX10_sheet_30.2.2.2.2.1
theorem dX10_sheet_37 : decode cX10_sheet 37 = .ok (.getfield 63, 3) := bdX10_sheet_30.2.2.2.2.2.1
theorem dX10_sheet_40 : decode cX10_sheet 40 = .ok (.iload_n 1, 1) := bdX10_sheet_30.2.2.2.2.2.2.1
theorem dX10_sheet_41 : decode cX10_sheet 41 = .ok (.iload_n 3, 1) := bdX10_sheet_30.2.2.2.2.2.2.2.1
theorem dX10_sheet_42 : decode cX10_sheet 42 = .ok (.iastore, 1) := bdX10_sheet_30.2.2.2.2.2.2.2.2.1
theorem dX10_sheet_43 : decode cX10_sheet 43 = .ok (.iconst 0, 1) := bdX10_sheet_30.2.2.2.2.2.2.2.2.2.1
theorem dX10_sheet_44 : decode cX10_sheet 44 = .ok (.istore 4, 2) := bdX10_sheet_30.2.2.2.2.2.2.2.2.2.2.1
theorem dX10_sheet_46 : decode cX10_sheet 46 = .ok (.iload 4, 2) := bdX10_sheet_30.2.2.2.2.2.2.2.2.2.2.2.1
theorem dX10_sheet_48 : decode cX10_sheet 48 = .ok (.bipush 25, 2) := bdX10_sheet_30.2.2.2.2.2.2.2.2.2.2.2.2.1
theorem dX10_sheet_50 : decode cX10_sheet 50 = .ok (.if_icmp .ge 22, 3) := bdX10_sheet_30.2.2.2.2.2.2.2.2.2.2.2.2.2.1
theorem dX10_sheet_53 : decode cX10_sheet 53 = .ok (.aload_n 0, 1) := bdX10_sheet_30.2.2.2.2.2.2.2.2.2.2.2.2.2.2.1
theorem dX10_sheet_54 : decode cX10_sheet 54 = .ok (.getfield 66, 3) := bdX10_sheet_30.2.2.2.2.2.2.2.2.2.2.2.2.2.2.2
theorem bdX10_sheet_57 : (decode cX10_sheet 57 = .ok (.bipush 25, 2)) ∧ (decode cX10_sheet 59 = .ok (.iload_n 1, 1)) ∧ (decode cX10_sheet 60 = .ok (.imul, 1)) ∧ (decode cX10_sheet 61 = .ok (.iload 4, 2)) ∧ (decode cX10_sheet 63 = .ok (.iadd, 1)) ∧ (decode cX10_sheet 64 = .ok (.iconst 0, 1)) ∧ (decode cX10_sheet 65 = .ok (.iastore, 1)) ∧ (decode cX10_sheet 66 = .ok (.iinc 4 1, 3)) ∧ (decode cX10_sheet 69 = .ok (.goto (-23), 3)) ∧ (decode cX10_sheet 72 = .ok (.iload_n 3, 1)) ∧ (decode cX10_sheet 73 = .ok (.ireturn, 1)) := by decide +kernel
theorem dX10_sheet_57 : decode cX10_sheet 57 = .ok (.bipush 25, 2) := bdX10_sheet_57.1
theorem dX10_sheet_59 : decode cX10_sheet 59 = .ok (.iload_n 1, 1) := bdX10_sheet_57.2.1
theorem dX10_sheet_60 : decode cX10_sheet 60 = .ok (.imul, 1) := bdX10_sheet_57.2.2.1
theorem dX10_sheet_61 : decode cX10_sheet 61 = .ok (.iload 4, 2) := bdX10_sheet_57.2.2.2.1
theorem dX10_sheet_63 : decode cX10_sheet 63 = .ok (.iadd, 1) := bdX10_sheet_57.2.2.2.2.1
theorem dX10_sheet_64 : decode cX10_sheet 64 = .ok (.iconst 0, 1) := bdX10_sheet_57.2.2.2.2.2.1
theorem dX10_sheet_65 : decode cX10_sheet 65 = .ok (.iastore, 1) := bdX10_sheet_57.2.2.2.2.2.2.1
theorem dX10_sheet_66 : decode cX10_sheet 66 = .ok (.iinc 4 1, 3) := bdX10_sheet_57.2.2.2.2.2.2.2.1
theorem dX10_sheet_69 : decode cX10_sheet 69 = .ok (.goto (-23), 3) := bdX10_sheet_57.2.2.2.2.2.2.2.2.1
theorem dX10_sheet_72 : decode cX10_sheet 72 = .ok (.iload_n 3, 1) := bdX10_sheet_57.2.2.2.2.2.2.2.2.2.1
theorem dX10_sheet_73 : decode cX10_sheet 73 = .ok (.ireturn, 1) := bdX10_sheet_57.2.2.2.2.2.2.2.2.2.2
set_option maxHeartbeats 4000000 in
set_option maxRecDepth 100000 in
theorem k_X10_sheet (l : Launch) (dC : Nat → ClassId) (dI : Nat → Nat → Nat) (h : Nat → Nat) (cs : Nat → ClassId) (sz : Nat) (I : Nat → Int32) (L : Nat → Int64) (A : Nat → Nat → Int32) (Q : Nat → Nat → Int64) (x y z : Int32) : Met l yX10_sheet wsX10_sheet ({ frames := 2, cells := 0, slots := 0, locals := 45 }) (va_Pc [.ref (h 0), .int x, .int y, .int z] (xPre (dC, dI) (rW h cs I L A Q) (tysA cs) sz)) (va_Qi (fun (r : Int32) (u : RS) => ∃ f25 : Nat → Int32, ∃ f26 : Nat → Int32, ∃ f27 : Nat → Int32, ((∃ i j k : Nat, i < 4 ∧ j < 3 ∧ k ≤ 25 ∧ x = nI i ∧ y = nI j ∧ z = nI k ∧ r = nI k ∧ f25 = upd (A 25) i (nI j) ∧ f26 = upd (A 26) i (nI k) ∧ (∀ t : Nat, t < 25 → f27 (25 * i + t) = nI 0) ∧ (∀ t : Nat, (t < 25 * i ∨ 25 * i + 25 ≤ t) → f27 t = A 27 t)) ∨ (r = -14 ∧ (∃ i j : Nat, i < 4 ∧ j < 3 ∧ x = nI i ∧ y = nI j) ∧ z < 0 ∧ f25 = A 25 ∧ f26 = A 26 ∧ f27 = A 27) ∨ (r = -1 ∧ (∀ i j : Nat, i < 4 → j < 3 → x = nI i → y = nI j → z ≤ nI 25 → False) ∧ f25 = A 25 ∧ f26 = A 26 ∧ f27 = A 27)) ∧ u = (I, L, (va_up (va_up (va_up A 25 f25) 26 f26) 27 f27), Q)) (xB (dC, dI) (tysA cs) (va_A (rW h cs I L A Q) sz) (fun u : RS => rW h cs u.1 u.2.1 u.2.2.1 u.2.2.2)) (va_A (rW h cs I L A Q) sz)) 0 0 (va_A (rW h cs I L A Q) sz) := by
  refine Met.ofW (cc := cX10_sheet) (maxL := 5) (ret := (some .int)) (by decide) rfl ?_
  intro p e s m args below meth c s₁ B hml hv
  obtain ⟨rfl, hsz, hP, hK, hD0, hN⟩ := hv
  have hx := B.exec
  have hb := B.bytes
  have hr := B.returns
  have hts := atoms_spec (ws := wsX10_sheet) B.pre
  have hown : s.vm.findClass RX10 = some m.cls := findClass_of_methodNamed B.named
  have hlocks := B.notSynchronized
  subst hsz
  have hD := hD0.self (sz := s.heap.size)
  generalize hAe : va_A (rW h cs I L A Q) s.heap.size = A0 at hD ⊢
  have hA : ∀ q : Nat, s.heap.size ≤ q → A0 q := fun q h => by rw [← hAe]; exact Or.inr h
  have hl := lv_entry ([.ref (h 0), .int x, .int y, .int z]) (n := 5) (Nat.le_of_ble_eq_true rfl)
  rw [lg_entry_eq]
  generalize (lg_sl ([.ref (h 0), .int x, .int y, .int z]) ++ List.replicate (5 - (lg_sl ([.ref (h 0), .int x, .int y, .int z])).length) Slot.unset).toArray = ls at hl ⊢
  have hl : lv_has ls 5 [(0, .ref (h 0)), (1, .int x), (2, .int y), (3, .int z)] := hl
  generalize hH : s.heap = H at hP ⊢
  have hS : va_S A0 s.heap H [] := by rw [← hH]; exact va_S.rf
  have hinX10 : ∀ w ∈ wsX100, w ∈ wsX10_sheet := by decide +kernel
  refine lv_iload_n hx hb dX10_sheet_0 rfl (lv_at hl 1 rfl) ?_
  refine xj_i (wc := ([] : va_W)) (wr := (rW h cs I L A Q)) hP hD hS hA [] [0, 1, 2, 3, 4, 5, 6, 7, 8, 9, 10, 11, 12, 13, 14, 15, 16] rfl rfl (by decide +kernel) (by decide +kernel) (va_runS (As := [.int x]) (rest := []) ⟨hx, hb, hml, hown, hts⟩ (k_X10_isSheet l dC dI h cs H.size I L A Q x) (va_cwS 1 hts gX10_sheet_X10_isSheet rfl rfl rfl (by decide +kernel) ⟨Nat.le_of_ble_eq_true rfl, Nat.le_of_ble_eq_true rfl⟩) (xpS (wc := ([] : va_W)) hP hD hK hN [] rfl (by decide) _) rfl rfl hl.1 rfl (lv_room (Nat.le_of_ble_eq_true rfl)) dX10_sheet_1 ⟨Nat.zero_le _, Nat.zero_le _⟩) (fun r_2 u_1 H locs hw hP hD hS => ?_)
  obtain ⟨hf_3, rfl⟩ := hw
  have hP : va_P (dC, dI) vwCl (rW h cs I L A Q) H := hP
  have hD : va_D A0 (rW h cs I L A Q) := hD
  rcases hf_3 with ⟨rfl, i_4, hi_5, hx_6⟩ | ⟨rfl, hn_7⟩
  · skip
    rw [hx_6] at hl
    refine xs_eqF (tgt := 20) hx hb dX10_sheet_4 (by decide) (by decide) ?_
    refine lv_iload_n hx hb dX10_sheet_7 rfl (lv_at hl 2 rfl) ?_
    refine xj_i (wc := ([] : va_W)) (wr := (rW h cs I L A Q)) hP hD hS hA [] [0, 1, 2, 3, 4, 5, 6, 7, 8, 9, 10, 11, 12, 13, 14, 15, 16] rfl rfl (by decide +kernel) (by decide +kernel) (va_runS (As := [.int y]) (rest := []) ⟨hx, hb, hml, hown, hts⟩ (k_X10_isLane l dC dI h cs H.size I L A Q y) (va_cwS 1 hts gX10_sheet_X10_isLane rfl rfl rfl (by decide +kernel) ⟨Nat.le_of_ble_eq_true rfl, Nat.le_of_ble_eq_true rfl⟩) (xpS (wc := ([] : va_W)) hP hD hK hN [] rfl (by decide) _) rfl rfl hl.1 rfl (lv_room (Nat.le_of_ble_eq_true rfl)) dX10_sheet_8 ⟨Nat.zero_le _, Nat.zero_le _⟩) (fun r_10 u_9 H locs hw hP hD hS => ?_)
    obtain ⟨hf_11, rfl⟩ := hw
    have hP : va_P (dC, dI) vwCl (rW h cs I L A Q) H := hP
    have hD : va_D A0 (rW h cs I L A Q) := hD
    rcases hf_11 with ⟨rfl, i_12, hi_13, hx_14⟩ | ⟨rfl, hn_15⟩
    · skip
      rw [hx_14] at hl
      refine xs_eqF (tgt := 20) hx hb dX10_sheet_11 (by decide) (by decide) ?_
      refine lv_iload_n hx hb dX10_sheet_14 rfl (lv_at hl 3 rfl) ?_
      refine lv_bipush (v := nI 25) hx hb dX10_sheet_15 (by decide) ?_
      refine lv_icmp_le (tgt := 22) hx hb dX10_sheet_17 (by decide) (fun c_17_16 => ?_) (fun c_17_16 => ?_)
      · skip
        refine lv_iload_n hx hb dX10_sheet_22 rfl (lv_at hl 3 rfl) ?_
        refine lv_if_ge (tgt := 29) hx hb dX10_sheet_23 (by decide) (fun c_23_17 => ?_) (fun c_23_17 => ?_)
        · skip
          obtain ⟨kz, hkz, hzk⟩ := le_nI (by decide) (by assumption : (0 : Int32) ≤ z) (by assumption : z ≤ nI 25)
          rw [hzk] at hl
          refine lv_aload_n hx hb dX10_sheet_29 rfl (lv_at hl 0 rfl) ?_
          refine va_get (D := (dC, dI)) (ci := 10) (v := .ref (h 25)) (C := RX10) (T := TX10) (N := 28) hx hb hts hinX10 hown hK hP 0 rfl rfl 25 (by decide) (hts (.fieldLink RX10 60 "MixedWordsModel" "lanes" "[I") (by decide +kernel)) (fun _ h9 => h9) rfl dX10_sheet_30 ?_
          refine lv_iload_n hx hb dX10_sheet_33 rfl (lv_at hl 1 rfl) ?_
          refine lv_iload_n hx hb dX10_sheet_34 rfl (lv_at hl 2 rfl) ?_
          refine xa_iast hx hb hK hP hD hS 14 0 rfl rfl (by omega) (by decide) dX10_sheet_35 (fun H locs hP hD hS => ?_)
          have hP : va_P (dC, dI) vwCl (rW h cs I L (va_up A 25 (upd (A 25) i_4 (nI i_12))) Q) H := hP
          have hD : va_D A0 (rW h cs I L (va_up A 25 (upd (A 25) i_4 (nI i_12))) Q) := hD
          refine lv_aload_n hx hb dX10_sheet_36 rfl (lv_at hl 0 rfl) ?_
          refine va_get (D := (dC, dI)) (ci := 10) (v := .ref (h 26)) (C := RX10) (T := TX10) (N := 28) hx hb hts hinX10 hown hK hP 0 rfl rfl 26 (by decide) (hts (.fieldLink RX10 63 "MixedWordsModel" "sizes" "[I") (by decide +kernel)) (fun _ h9 => h9) rfl dX10_sheet_37 ?_
          refine lv_iload_n hx hb dX10_sheet_40 rfl (lv_at hl 1 rfl) ?_
          refine lv_iload_n hx hb dX10_sheet_41 rfl (lv_at hl 3 rfl) ?_
          refine xa_iast hx hb hK hP hD hS 15 0 rfl rfl (by omega) (by decide) dX10_sheet_42 (fun H locs hP hD hS => ?_)
          have hP : va_P (dC, dI) vwCl (rW h cs I L (va_up (va_up A 25 (upd (A 25) i_4 (nI i_12))) 26 (upd (A 26) i_4 (nI kz))) Q) H := hP
          have hD : va_D A0 (rW h cs I L (va_up (va_up A 25 (upd (A 25) i_4 (nI i_12))) 26 (upd (A 26) i_4 (nI kz))) Q) := hD
          refine lv_iconst (v := nI 0) hx hb dX10_sheet_43 (by decide) ?_
          refine lv_istore (lv' := [(4, .int (nI 0)), (0, .ref (h 0)), (1, .int (nI i_4)), (2, .int (nI i_12)), (3, .int (nI kz))]) hx hb dX10_sheet_44 hl (by decide) rfl (fun ls hl => ?_)
          have cut_46 : ∀ (nf : Nat) (k : Nat) (g : Nat → Int32), (25 - k) < nf → (k ≤ 25) → (∀ t : Nat, t < k → g (25 * i_4 + t) = nI 0) → (∀ t : Nat, (t < 25 * i_4 ∨ 25 * i_4 + 25 ≤ t) → g t = A 27 t) → ∀ (H : Heap) (locs : List Loc) (ls : Array Slot), va_P (dC, dI) vwCl (rW h cs I L (va_up (va_up (va_up A 25 (upd (A 25) i_4 (nI i_12))) 26 (upd (A 26) i_4 (nI kz))) 27 g) Q) H → va_D A0 (rW h cs I L (va_up (va_up (va_up A 25 (upd (A 25) i_4 (nI i_12))) 26 (upd (A 26) i_4 (nI kz))) 27 g) Q) → va_S A0 s.heap H locs → lv_has ls 5 [(0, .ref (h 0)), (1, .int (nI i_4)), (2, .int (nI i_12)), (3, .int (nI kz)), (4, .int (nI k))] → W p l e (headSpec wsX10_sheet ({ frames := 2, cells := 0, slots := 0, locals := 45 })).room s m ([.ref (h 0), .int x, .int y, .int z] : List Value).toArray below meth c H locs 0 0 (MQ below (va_Qi (fun (r : Int32) (u : RS) => ∃ f25 : Nat → Int32, ∃ f26 : Nat → Int32, ∃ f27 : Nat → Int32, ((∃ i j k : Nat, i < 4 ∧ j < 3 ∧ k ≤ 25 ∧ x = nI i ∧ y = nI j ∧ z = nI k ∧ r = nI k ∧ f25 = upd (A 25) i (nI j) ∧ f26 = upd (A 26) i (nI k) ∧ (∀ t : Nat, t < 25 → f27 (25 * i + t) = nI 0) ∧ (∀ t : Nat, (t < 25 * i ∨ 25 * i + 25 ≤ t) → f27 t = A 27 t)) ∨ (r = -14 ∧ (∃ i j : Nat, i < 4 ∧ j < 3 ∧ x = nI i ∧ y = nI j) ∧ z < 0 ∧ f25 = A 25 ∧ f26 = A 26 ∧ f27 = A 27) ∨ (r = -1 ∧ (∀ i j : Nat, i < 4 → j < 3 → x = nI i → y = nI j → z ≤ nI 25 → False) ∧ f25 = A 25 ∧ f26 = A 26 ∧ f27 = A 27)) ∧ u = (I, L, (va_up (va_up (va_up A 25 f25) 26 f26) 27 f27), Q)) (xB (dC, dI) (tysA cs) A0 (fun u : RS => rW h cs u.1 u.2.1 u.2.2.1 u.2.2.2)) A0) ([.ref (h 0), .int x, .int y, .int z] : List Value).toArray s 0 0 A0) (F0 m 46 ls []) := by
            intro nf
            induction nf with
            | zero => intro k g hm; exact absurd hm (Nat.not_lt_zero _)
            | succ nf ih_46 =>
              intro k g hm_46 hk_46 hf_46 ho_46 H locs ls hP hD hS hl
              refine lv_iload hx hb dX10_sheet_46 (lv_at hl 4 rfl) ?_
              refine lv_bipush (v := nI 25) hx hb dX10_sheet_48 (by decide) ?_
              refine xn_ge (tgt := 72) hx hb dX10_sheet_50 (by decide) (by omega) (by omega) (fun c_50_18 => ?_) (fun c_50_18 => ?_)
              · skip
                refine lv_iload_n hx hb dX10_sheet_72 rfl (lv_at hl 3 rfl) ?_
                exact xr_i (v := (nI kz)) hx hb hr hlocks hK hS dX10_sheet_73 (I, L, (va_up (va_up (va_up A 25 (upd (A 25) i_4 (nI i_12))) 26 (upd (A 26) i_4 (nI kz))) 27 g), Q) ⟨(upd (A 25) i_4 (nI i_12)), (upd (A 26) i_4 (nI kz)), g, (Or.inl ⟨i_4, i_12, kz, hi_5, hi_13, hkz, hx_6, hx_14, hzk, rfl, rfl, rfl, fun t ht => hf_46 t (by omega), ho_46⟩), rfl⟩ hP hD
              · skip
                refine lv_aload_n hx hb dX10_sheet_53 rfl (lv_at hl 0 rfl) ?_
                refine va_get (D := (dC, dI)) (ci := 10) (v := .ref (h 27)) (C := RX10) (T := TX10) (N := 28) hx hb hts hinX10 hown hK hP 0 rfl rfl 27 (by decide) (hts (.fieldLink RX10 66 "MixedWordsModel" "items" "[I") (by decide +kernel)) (fun _ h9 => h9) rfl dX10_sheet_54 ?_
                refine lv_bipush (v := nI 25) hx hb dX10_sheet_57 (by decide) ?_
                refine lv_iload_n hx hb dX10_sheet_59 rfl (lv_at hl 1 rfl) ?_
                refine lv_imul hx hb dX10_sheet_60 ?_
                refine xt_i (y := nI (25 * i_4)) (pk_mul _ _) ?_
                refine lv_iload hx hb dX10_sheet_61 (lv_at hl 4 rfl) ?_
                refine lv_iadd hx hb dX10_sheet_63 ?_
                refine xt_i (y := nI ((25 * i_4) + k)) (nI_add _ _) ?_
                refine lv_iconst (v := nI 0) hx hb dX10_sheet_64 (by decide) ?_
                refine xa_iast hx hb hK hP hD hS 16 0 rfl rfl (by omega) (by decide) dX10_sheet_65 (fun H locs hP hD hS => ?_)
                have hP : va_P (dC, dI) vwCl (rW h cs I L (va_up (va_up (va_up A 25 (upd (A 25) i_4 (nI i_12))) 26 (upd (A 26) i_4 (nI kz))) 27 (upd g ((25 * i_4) + k) (nI 0))) Q) H := hP
                have hD : va_D A0 (rW h cs I L (va_up (va_up (va_up A 25 (upd (A 25) i_4 (nI i_12))) 26 (upd (A 26) i_4 (nI kz))) 27 (upd g ((25 * i_4) + k) (nI 0))) Q) := hD
                refine lv_iinc (v := nI (k + 1)) (lv' := [(4, .int (nI (k + 1))), (0, .ref (h 0)), (1, .int (nI i_4)), (2, .int (nI i_12)), (3, .int (nI kz))]) hx hb dX10_sheet_66 hl (k := 4) rfl (nI_1 _) (by decide) rfl (fun ls hl => ?_)
                refine lv_goto (tgt := 46) hx hb dX10_sheet_69 (by decide) ?_
                exact ih_46 (k + 1) (upd g ((25 * i_4) + k) (nI 0)) (by omega) (by first | assumption | omega) (by first | exact fill_0 | exact fill_s hf_46) (by first | exact fun _ _ => rfl | exact fill_o (by omega) ho_46) _ _ _ hP hD hS (lv_sub hl [1, 2, 3, 4, 0] rfl)
          exact cut_46 _ 0 (A 27) (Nat.lt_succ_self _) (by first | assumption | omega) (by first | exact fill_0 | exact fill_s hf_46) (by first | exact fun _ _ => rfl | exact fill_o (by omega) ho_46) _ _ _ hP hD hS (lv_sub hl [1, 2, 3, 4, 0] rfl)
        · skip
          refine lv_bipush (v := (-14)) hx hb dX10_sheet_26 (by decide) ?_
          exact xr_i (v := (-14)) hx hb hr hlocks hK hS dX10_sheet_28 (I, L, (va_up (va_up (va_up A 25 (A 25)) 26 (A 26)) 27 (A 27)), Q) ⟨(A 25), (A 26), (A 27), (Or.inr (Or.inl ⟨rfl, ⟨i_4, i_12, hi_5, hi_13, hx_6, hx_14⟩, Int32.not_le.mp (by assumption), rfl, rfl, rfl⟩)), rfl⟩ hP hD
      · skip
        refine lv_iconst (v := (-1)) hx hb dX10_sheet_20 (by decide) ?_
        exact xr_i (v := (-1)) hx hb hr hlocks hK hS dX10_sheet_21 (I, L, (va_up (va_up (va_up A 25 (A 25)) 26 (A 26)) 27 (A 27)), Q) ⟨(A 25), (A 26), (A 27), (Or.inr (Or.inr ⟨rfl, fun i j a b c d e => absurd e (by assumption), rfl, rfl, rfl⟩)), rfl⟩ hP hD
    · skip
      refine xs_eqT (tgt := 20) hx hb dX10_sheet_11 (by decide) (by decide) ?_
      refine lv_iconst (v := (-1)) hx hb dX10_sheet_20 (by decide) ?_
      exact xr_i (v := (-1)) hx hb hr hlocks hK hS dX10_sheet_21 (I, L, (va_up (va_up (va_up A 25 (A 25)) 26 (A 26)) 27 (A 27)), Q) ⟨(A 25), (A 26), (A 27), (Or.inr (Or.inr ⟨rfl, fun i j a b c d e => hn_15 j b d, rfl, rfl, rfl⟩)), rfl⟩ hP hD
  · skip
    refine xs_eqT (tgt := 20) hx hb dX10_sheet_4 (by decide) (by decide) ?_
    refine lv_iconst (v := (-1)) hx hb dX10_sheet_20 (by decide) ?_
    exact xr_i (v := (-1)) hx hb hr hlocks hK hS dX10_sheet_21 (I, L, (va_up (va_up (va_up A 25 (A 25)) 26 (A 26)) 27 (A 27)), Q) ⟨(A 25), (A 26), (A 27), (Or.inr (Or.inr ⟨rfl, fun i j a b c d e => hn_7 i a c, rfl, rfl, rfl⟩)), rfl⟩ hP hD
set_option maxRecDepth 20000 in
theorem ggX10_drop_X10_isSheet : GoodIn wsX10_drop wsX10_isSheet := goodIn_r _ [6, 7, 8, 9, 5, 10] rfl (by decide +kernel)
set_option maxRecDepth 20000 in
theorem gX10_drop_X10_isSheet : GoodIn wsX10_drop (va_wsS RX10 241 yX10_isSheet wsX10_isSheet) := goodIn_app (goodIn_of _ (by decide +kernel)) ggX10_drop_X10_isSheet
theorem bdX10_drop_0 : (decode cX10_drop 0 = .ok (.iload_n 1, 1)) ∧ (decode cX10_drop 1 = .ok (.invokestatic 241, 3)) ∧ (decode cX10_drop 4 = .ok (.ifCond .ne 5, 3)) ∧ (decode cX10_drop 7 = .ok (.iconst (-1), 1)) ∧ (decode cX10_drop 8 = .ok (.ireturn, 1)) ∧ (decode cX10_drop 9 = .ok (.aload_n 0, 1)) ∧ (decode cX10_drop 10 = .ok (.getfield 60, 3)) ∧ (decode cX10_drop 13 = .ok (.iload_n 1, 1)) ∧ (decode cX10_drop 14 = .ok (.iaload, 1)) ∧ (decode cX10_drop 15 = .ok (.ifCond .ge 6, 3)) ∧ (decode cX10_drop 18 = .ok (.bipush (-11), 2)) ∧ (decode cX10_drop 20 = .ok (.ireturn, 1)) ∧ (decode cX10_drop 21 = .ok (.aload_n 0, 1)) ∧ (decode cX10_drop 22 = .ok (.getfield 60, 3)) ∧ (decode cX10_drop 25 = .ok (.iload_n 1, 1)) ∧ (decode cX10_drop 26 = .ok (.iconst (-1), 1)) := by decide +kernel
theorem dX10_drop_0 : decode cX10_drop 0 = .ok (.iload_n 1, 1) := bdX10_drop_0.1
theorem dX10_drop_1 : decode cX10_drop 1 = .ok (.invokestatic 241, 3) := bdX10_drop_0.2.1
theorem dX10_drop_4 : decode cX10_drop 4 = .ok (.ifCond .ne 5, 3) := bdX10_drop_0.2.2.1
theorem dX10_drop_7 : decode cX10_drop 7 = .ok (.iconst (-1), 1) := bdX10_drop_0.2.2.2.1
theorem dX10_drop_8 : decode cX10_drop 8 = .ok (.ireturn, 1) := bdX10_drop_0.2.2.2.2.1
theorem dX10_drop_9 : decode cX10_drop 9 = .ok (.aload_n 0, 1) := bdX10_drop_0.2.2.2.2.2.1
theorem dX10_drop_10 : decode cX10_drop 10 = .ok (.getfield 60, 3) := bdX10_drop_0.2.2.2.2.2.2.1
theorem dX10_drop_13 : decode cX10_drop 13 = .ok (.iload_n 1, 1) := bdX10_drop_0.2.2.2.2.2.2.2.1
theorem dX10_drop_14 : decode cX10_drop 14 = .ok (.iaload, 1) := bdX10_drop_0.2.2.2.2.2.2.2.2.1
theorem dX10_drop_15 : decode cX10_drop 15 = .ok (.ifCond .ge 6, 3) := bdX10_drop_0.2.2.2.2.2.2.2.2.2.1
theorem dX10_drop_18 : decode cX10_drop 18 = .ok (.bipush (-11), 2) := bdX10_drop_0.2.2.2.2.2.2.2.2.2.2.1
theorem dX10_drop_20 : decode cX10_drop 20 = .ok (.ireturn, 1) := bdX10_drop_0.2.2.2.2.2.2.2.2.2.2.2.1
theorem dX10_drop_21 : decode cX10_drop 21 = .ok (.aload_n 0, 1) := bdX10_drop_0.2.2.2.2.2.2.2.2.2.2.2.2.1
theorem dX10_drop_22 : decode cX10_drop 22 = .ok (.getfield 60, 3) := bdX10_drop_0.2.2.2.2.2.2.2.2.2.2.2.2.2.1
theorem dX10_drop_25 : decode cX10_drop 25 = .ok (.iload_n 1, 1) := bdX10_drop_0.2.2.2.2.2.2.2.2.2.2.2.2.2.2.1
theorem dX10_drop_26 : decode cX10_drop 26 = .ok (.iconst (-1), 1) := bdX10_drop_0.2.2.2.2.2.2.2.2.2.2.2.2.2.2.2
theorem bdX10_drop_27 : (decode cX10_drop 27 = .ok (.iastore, 1)) ∧ (decode cX10_drop 28 = .ok (.aload_n 0, 1)) ∧ (decode cX10_drop 29 = .ok (.getfield 63, 3)) ∧ (decode cX10_drop 32 = .ok (.iload_n 1, 1)) ∧ (decode cX10_drop 33 = .ok (.iaload, 1)) ∧ (decode cX10_drop 34 = .ok (.ireturn, 1)) := by decide +kernel
theorem dX10_drop_27 : decode cX10_drop 27 = .ok (.iastore, 1) := bdX10_drop_27.1
theorem dX10_drop_28 : decode cX10_drop 28 = .ok (.aload_n 0, 1) := bdX10_drop_27.2.1
theorem dX10_drop_29 : decode cX10_drop 29 = .ok (.getfield 63, 3) := bdX10_drop_27.2.2.1
theorem dX10_drop_32 : decode cX10_drop 32 = .ok (.iload_n 1, 1) := bdX10_drop_27.2.2.2.1
theorem dX10_drop_33 : decode cX10_drop 33 = .ok (.iaload, 1) := bdX10_drop_27.2.2.2.2.1
theorem dX10_drop_34 : decode cX10_drop 34 = .ok (.ireturn, 1) := bdX10_drop_27.2.2.2.2.2
set_option maxHeartbeats 4000000 in
set_option maxRecDepth 100000 in
theorem k_X10_drop (l : Launch) (dC : Nat → ClassId) (dI : Nat → Nat → Nat) (h : Nat → Nat) (cs : Nat → ClassId) (sz : Nat) (I : Nat → Int32) (L : Nat → Int64) (A : Nat → Nat → Int32) (Q : Nat → Nat → Int64) (x : Int32) : Met l yX10_drop wsX10_drop ({ frames := 2, cells := 0, slots := 0, locals := 45 }) (va_Pc [.ref (h 0), .int x] (xPre (dC, dI) (rW h cs I L A Q) (tysA cs) sz)) (va_Qi (fun (r : Int32) (u : RS) => ∃ f25 : Nat → Int32, ((∃ i : Nat, i < 4 ∧ x = nI i ∧ r = A 26 i ∧ 0 ≤ A 25 i ∧ f25 = upd (A 25) i (-1)) ∨ (∃ i : Nat, i < 4 ∧ x = nI i ∧ r = -11 ∧ A 25 i < 0 ∧ f25 = A 25) ∨ (r = -1 ∧ (∀ i : Nat, i < 4 → x ≠ nI i) ∧ f25 = A 25)) ∧ u = (I, L, (va_up A 25 f25), Q)) (xB (dC, dI) (tysA cs) (va_A (rW h cs I L A Q) sz) (fun u : RS => rW h cs u.1 u.2.1 u.2.2.1 u.2.2.2)) (va_A (rW h cs I L A Q) sz)) 0 0 (va_A (rW h cs I L A Q) sz) := by
  refine Met.ofW (cc := cX10_drop) (maxL := 2) (ret := (some .int)) (by decide) rfl ?_
  intro p e s m args below meth c s₁ B hml hv
  obtain ⟨rfl, hsz, hP, hK, hD0, hN⟩ := hv
  have hx := B.exec
  have hb := B.bytes
  have hr := B.returns
  have hts := atoms_spec (ws := wsX10_drop) B.pre
  have hown : s.vm.findClass RX10 = some m.cls := findClass_of_methodNamed B.named
  have hlocks := B.notSynchronized
  subst hsz
  have hD := hD0.self (sz := s.heap.size)
  generalize hAe : va_A (rW h cs I L A Q) s.heap.size = A0 at hD ⊢
  have hA : ∀ q : Nat, s.heap.size ≤ q → A0 q := fun q h => by rw [← hAe]; exact Or.inr h
  have hl := lv_entry ([.ref (h 0), .int x]) (n := 2) (Nat.le_of_ble_eq_true rfl)
  rw [lg_entry_eq]
  generalize (lg_sl ([.ref (h 0), .int x]) ++ List.replicate (2 - (lg_sl ([.ref (h 0), .int x])).length) Slot.unset).toArray = ls at hl ⊢
  have hl : lv_has ls 2 [(0, .ref (h 0)), (1, .int x)] := hl
  generalize hH : s.heap = H at hP ⊢
  have hS : va_S A0 s.heap H [] := by rw [← hH]; exact va_S.rf
  have hinX10 : ∀ w ∈ wsX100, w ∈ wsX10_drop := by decide +kernel
  refine lv_iload_n hx hb dX10_drop_0 rfl (lv_at hl 1 rfl) ?_
  refine xj_i (wc := ([] : va_W)) (wr := (rW h cs I L A Q)) hP hD hS hA [] [0, 1, 2, 3, 4, 5, 6, 7, 8, 9, 10, 11, 12, 13, 14, 15, 16] rfl rfl (by decide +kernel) (by decide +kernel) (va_runS (As := [.int x]) (rest := []) ⟨hx, hb, hml, hown, hts⟩ (k_X10_isSheet l dC dI h cs H.size I L A Q x) (va_cwS 1 hts gX10_drop_X10_isSheet rfl rfl rfl (by decide +kernel) ⟨Nat.le_of_ble_eq_true rfl, Nat.le_of_ble_eq_true rfl⟩) (xpS (wc := ([] : va_W)) hP hD hK hN [] rfl (by decide) _) rfl rfl hl.1 rfl (lv_room (Nat.le_of_ble_eq_true rfl)) dX10_drop_1 ⟨Nat.zero_le _, Nat.zero_le _⟩) (fun r_2 u_1 H locs hw hP hD hS => ?_)
  obtain ⟨hf_3, rfl⟩ := hw
  have hP : va_P (dC, dI) vwCl (rW h cs I L A Q) H := hP
  have hD : va_D A0 (rW h cs I L A Q) := hD
  rcases hf_3 with ⟨rfl, i_4, hi_5, hx_6⟩ | ⟨rfl, hn_7⟩
  · skip
    rw [hx_6] at hl
    refine xs_neT (tgt := 9) hx hb dX10_drop_4 (by decide) (by decide) ?_
    refine lv_aload_n hx hb dX10_drop_9 rfl (lv_at hl 0 rfl) ?_
    refine va_get (D := (dC, dI)) (ci := 10) (v := .ref (h 25)) (C := RX10) (T := TX10) (N := 28) hx hb hts hinX10 hown hK hP 0 rfl rfl 25 (by decide) (hts (.fieldLink RX10 60 "MixedWordsModel" "lanes" "[I") (by decide +kernel)) (fun _ h9 => h9) rfl dX10_drop_10 ?_
    refine lv_iload_n hx hb dX10_drop_13 rfl (lv_at hl 1 rfl) ?_
    refine xa_iald hx hb hK hP 14 0 rfl rfl (by omega) (by decide) dX10_drop_14 ?_
    refine lv_if_ge (tgt := 21) hx hb dX10_drop_15 (by decide) (fun c_15_8 => ?_) (fun c_15_8 => ?_)
    · skip
      refine lv_aload_n hx hb dX10_drop_21 rfl (lv_at hl 0 rfl) ?_
      refine va_get (D := (dC, dI)) (ci := 10) (v := .ref (h 25)) (C := RX10) (T := TX10) (N := 28) hx hb hts hinX10 hown hK hP 0 rfl rfl 25 (by decide) (hts (.fieldLink RX10 60 "MixedWordsModel" "lanes" "[I") (by decide +kernel)) (fun _ h9 => h9) rfl dX10_drop_22 ?_
      refine lv_iload_n hx hb dX10_drop_25 rfl (lv_at hl 1 rfl) ?_
      refine lv_iconst (v := (-1)) hx hb dX10_drop_26 (by decide) ?_
      refine xa_iast hx hb hK hP hD hS 14 0 rfl rfl (by omega) (by decide) dX10_drop_27 (fun H locs hP hD hS => ?_)
      have hP : va_P (dC, dI) vwCl (rW h cs I L (va_up A 25 (upd (A 25) i_4 (-1))) Q) H := hP
      have hD : va_D A0 (rW h cs I L (va_up A 25 (upd (A 25) i_4 (-1))) Q) := hD
      refine lv_aload_n hx hb dX10_drop_28 rfl (lv_at hl 0 rfl) ?_
      refine va_get (D := (dC, dI)) (ci := 10) (v := .ref (h 26)) (C := RX10) (T := TX10) (N := 28) hx hb hts hinX10 hown hK hP 0 rfl rfl 26 (by decide) (hts (.fieldLink RX10 63 "MixedWordsModel" "sizes" "[I") (by decide +kernel)) (fun _ h9 => h9) rfl dX10_drop_29 ?_
      refine lv_iload_n hx hb dX10_drop_32 rfl (lv_at hl 1 rfl) ?_
      refine xa_iald hx hb hK hP 15 0 rfl rfl (by omega) (by decide) dX10_drop_33 ?_
      exact xr_i (v := (A 26 i_4)) hx hb hr hlocks hK hS dX10_drop_34 (I, L, (va_up A 25 (upd (A 25) i_4 (-1))), Q) ⟨(upd (A 25) i_4 (-1)), (Or.inl ⟨i_4, hi_5, hx_6, rfl, by assumption, rfl⟩), rfl⟩ hP hD
    · skip
      refine lv_bipush (v := (-11)) hx hb dX10_drop_18 (by decide) ?_
      exact xr_i (v := (-11)) hx hb hr hlocks hK hS dX10_drop_20 (I, L, (va_up A 25 (A 25)), Q) ⟨(A 25), (Or.inr (Or.inl ⟨i_4, hi_5, hx_6, rfl, Int32.not_le.mp (by assumption), rfl⟩)), rfl⟩ hP hD
  · skip
    refine xs_neF (tgt := 9) hx hb dX10_drop_4 (by decide) (by decide) ?_
    refine lv_iconst (v := (-1)) hx hb dX10_drop_7 (by decide) ?_
    exact xr_i (v := (-1)) hx hb hr hlocks hK hS dX10_drop_8 (I, L, (va_up A 25 (A 25)), Q) ⟨(A 25), (Or.inr (Or.inr ⟨rfl, hn_7, rfl⟩)), rfl⟩ hP hD
set_option maxRecDepth 20000 in
theorem ggX10_item_X10_isSheet : GoodIn wsX10_item wsX10_isSheet := goodIn_r _ [7, 8, 9, 10, 6, 11] rfl (by decide +kernel)
set_option maxRecDepth 20000 in
theorem gX10_item_X10_isSheet : GoodIn wsX10_item (va_wsS RX10 241 yX10_isSheet wsX10_isSheet) := goodIn_app (goodIn_of _ (by decide +kernel)) ggX10_item_X10_isSheet
set_option maxRecDepth 20000 in
theorem ggX10_item_X10_isLane : GoodIn wsX10_item wsX10_isLane := goodIn_r _ [14, 15, 9, 10, 6, 11] rfl (by decide +kernel)
set_option maxRecDepth 20000 in
theorem gX10_item_X10_isLane : GoodIn wsX10_item (va_wsS RX10 244 yX10_isLane wsX10_isLane) := goodIn_app (goodIn_of _ (by decide +kernel)) ggX10_item_X10_isLane
set_option maxRecDepth 20000 in
theorem ggX10_item_X10_in : GoodIn wsX10_item wsX10_in := goodIn_r _ [11] rfl (by decide +kernel)
set_option maxRecDepth 20000 in
theorem gX10_item_X10_in : GoodIn wsX10_item (va_wsS RX10 77 yX10_in wsX10_in) := goodIn_app (goodIn_of _ (by decide +kernel)) ggX10_item_X10_in
theorem bdX10_item_0 : (decode cX10_item 0 = .ok (.iload_n 1, 1)) ∧ (decode cX10_item 1 = .ok (.invokestatic 241, 3)) ∧ (decode cX10_item 4 = .ok (.ifCond .eq 10, 3)) ∧ (decode cX10_item 7 = .ok (.iload_n 2, 1)) ∧ (decode cX10_item 8 = .ok (.invokestatic 244, 3)) ∧ (decode cX10_item 11 = .ok (.ifCond .ne 5, 3)) ∧ (decode cX10_item 14 = .ok (.iconst (-1), 1)) ∧ (decode cX10_item 15 = .ok (.ireturn, 1)) ∧ (decode cX10_item 16 = .ok (.aload_n 0, 1)) ∧ (decode cX10_item 17 = .ok (.getfield 60, 3)) ∧ (decode cX10_item 20 = .ok (.iload_n 1, 1)) ∧ (decode cX10_item 21 = .ok (.iaload, 1)) ∧ (decode cX10_item 22 = .ok (.ifCond .ge 6, 3)) ∧ (decode cX10_item 25 = .ok (.bipush (-11), 2)) ∧ (decode cX10_item 27 = .ok (.ireturn, 1)) ∧ (decode cX10_item 28 = .ok (.aload_n 0, 1)) := by decide +kernel
theorem dX10_item_0 : decode cX10_item 0 = .ok (.iload_n 1, 1) := bdX10_item_0.1
theorem dX10_item_1 : decode cX10_item 1 = .ok (.invokestatic 241, 3) := bdX10_item_0.2.1
theorem dX10_item_4 : decode cX10_item 4 = .ok (.ifCond .eq 10, 3) := bdX10_item_0.2.2.1
theorem dX10_item_7 : decode cX10_item 7 = .ok (.iload_n 2, 1) := bdX10_item_0.2.2.2.1
theorem dX10_item_8 : decode cX10_item 8 = .ok (.invokestatic 244, 3) := bdX10_item_0.2.2.2.2.1
theorem dX10_item_11 : decode cX10_item 11 = .ok (.ifCond .ne 5, 3) := bdX10_item_0.2.2.2.2.2.1
theorem dX10_item_14 : decode cX10_item 14 = .ok (.iconst (-1), 1) := bdX10_item_0.2.2.2.2.2.2.1
theorem dX10_item_15 : decode cX10_item 15 = .ok (.ireturn, 1) := bdX10_item_0.2.2.2.2.2.2.2.1
theorem dX10_item_16 : decode cX10_item 16 = .ok (.aload_n 0, 1) := bdX10_item_0.2.2.2.2.2.2.2.2.1
theorem dX10_item_17 : decode cX10_item 17 = .ok (.getfield 60, 3) := bdX10_item_0.2.2.2.2.2.2.2.2.2.1
theorem dX10_item_20 : decode cX10_item 20 = .ok (.iload_n 1, 1) := bdX10_item_0.2.2.2.2.2.2.2.2.2.2.1
theorem dX10_item_21 : decode cX10_item 21 = .ok (.iaload, 1) := bdX10_item_0.2.2.2.2.2.2.2.2.2.2.2.1
theorem dX10_item_22 : decode cX10_item 22 = .ok (.ifCond .ge 6, 3) := bdX10_item_0.2.2.2.2.2.2.2.2.2.2.2.2.1
theorem dX10_item_25 : decode cX10_item 25 = .ok (.bipush (-11), 2) := bdX10_item_0.2.2.2.2.2.2.2.2.2.2.2.2.2.1
theorem dX10_item_27 : decode cX10_item 27 = .ok (.ireturn, 1) := bdX10_item_0.2.2.2.2.2.2.2.2.2.2.2.2.2.2.1
theorem dX10_item_28 : decode cX10_item 28 = .ok (.aload_n 0, 1) := bdX10_item_0.2.2.2.2.2.2.2.2.2.2.2.2.2.2.2
theorem bdX10_item_29 : (decode cX10_item 29 = .ok (.getfield 60, 3)) ∧ (decode cX10_item 32 = .ok (.iload_n 1, 1)) ∧ (decode cX10_item 33 = .ok (.iaload, 1)) ∧ (decode cX10_item 34 = .ok (.iload_n 2, 1)) ∧ (decode cX10_item 35 = .ok (.if_icmp .eq 6, 3)) ∧ (decode cX10_item 38 = .ok (.bipush (-12), 2)) ∧ (decode cX10_item 40 = .ok (.ireturn, 1)) ∧ (decode cX10_item 41 = .ok (.iload_n 3, 1)) ∧ (decode cX10_item 42 = .ok (.i2l, 1)) ∧ (decode cX10_item 43 = .ok (.lconst 0, 1)) ∧ (decode cX10_item 44 = .ok (.aload_n 0, 1)) ∧ (decode cX10_item 45 = .ok (.getfield 63, 3)) ∧ (decode cX10_item 48 = .ok (.iload_n 1, 1)) ∧ (decode cX10_item 49 = .ok (.iaload, 1)) ∧ (decode cX10_item 50 = .ok (.iconst 1, 1)) ∧ (decode cX10_item 51 = .ok (.isub, 1)) := by decide +kernel
theorem dX10_item_29 : decode cX10_item 29 = .ok (.getfield 60, 3) := bdX10_item_29.1
theorem dX10_item_32 : decode cX10_item 32 = .ok (.iload_n 1, 1) := bdX10_item_29.2.1
theorem dX10_item_33 : decode cX10_item 33 = .ok (.iaload, 1) := bdX10_item_29.2.2.1
theorem dX10_item_34 : decode cX10_item 34 = .ok (.iload_n 2, 1) := bdX10_item_29.2.2.2.1
theorem dX10_item_35 : decode cX10_item 35 = .ok (.if_icmp .eq 6, 3) := bdX10_item_29.2.2.2.2.1
theorem dX10_item_38 : decode cX10_item 38 = .ok (.bipush (-12), 2) := bdX10_item_29.2.2.2.2.2.1
theorem dX10_item_40 : decode cX10_item 40 = .ok (.ireturn, 1) := bdX10_item_29.2.2.2.2.2.2.1
theorem dX10_item_41 : decode cX10_item 41 = .ok (.iload_n 3, 1) := bdX10_item_29.2.2.2.2.2.2.2.1
theorem dX10_item_42 : decode cX10_item 42 = .ok (.i2l, 1) := bdX10_item_29.2.2.2.2.2.2.2.2.1
theorem dX10_item_43 : decode cX10_item 43 = .ok (.lconst 0, 1) := bdX10_item_29.2.2.2.2.2.2.2.2.2.1
theorem dX10_item_44 : decode cX10_item 44 = .ok (.aload_n 0, 1) := bdX10_item_29.2.2.2.2.2.2.2.2.2.2.1
theorem dX10_item_45 : decode cX10_item 45 = .ok (.getfield 63, 3) := bdX10_item_29.2.2.2.2.2.2.2.2.2.2.2.1
theorem dX10_item_48 : decode cX10_item 48 = .ok (.iload_n 1, 1) := bdX10_item_29.2.2.2.2.2.2.2.2.2.2.2.2.1
theorem dX10_item_49 : decode cX10_item 49 = .ok (.iaload, 1) := bdX10_item_29.2.2.2.2.2.2.2.2.2.2.2.2.2.1
theorem dX10_item_50 : decode cX10_item 50 = .ok (.iconst 1, 1) := bdX10_item_29.2.2.2.2.2.2.2.2.2.2.2.2.2.2.1
theorem dX10_item_51 : decode cX10_item 51 = .ok (.isub, 1) := bdX10_item_29.2.2.2.2.2.2.2.2.2.2.2.2.2.2.2
theorem bdX10_item_52 : (decode cX10_item 52 = .ok (.i2l, 1)) ∧ (decode cX10_item 53 = .ok (.invokestatic 77, 3)) ∧ (decode cX10_item 56 = .ok (.ifCond .ne 6, 3)) ∧ (decode cX10_item 59 = .ok (.bipush (-13), 2)) ∧ (decode cX10_item 61 = .ok (.ireturn, 1)) ∧ (decode cX10_item 62 = .ok (.aload_n 0, 1)) ∧ (decode cX10_item 63 = .ok (.getfield 66, 3)) ∧ (decode cX10_item 66 = .ok (.bipush 25, 2)) ∧ (decode cX10_item 68 = .ok (.iload_n 1, 1)) ∧ (decode cX10_item 69 = .ok (.imul, 1)) ∧ (decode cX10_item 70 = .ok (.iload_n 3, 1)) ∧ (decode cX10_item 71 = .ok (.iadd, 1)) ∧ (decode cX10_item 72 = .ok (.iload_n 2, 1)) ∧ (decode cX10_item 73 = .ok (.ifCond .ne 9, 3)) ∧ (decode cX10_item 76 = .ok (.iload 4, 2)) ∧ (decode cX10_item 78 = .ok (.i2b, 1)) := by decide +kernel
theorem dX10_item_52 : decode cX10_item 52 = .ok (.i2l, 1) := bdX10_item_52.1
theorem dX10_item_53 : decode cX10_item 53 = .ok (.invokestatic 77, 3) := bdX10_item_52.2.1
theorem dX10_item_56 : decode cX10_item 56 = .ok (.ifCond .ne 6, 3) := bdX10_item_52.2.2.1
theorem dX10_item_59 : decode cX10_item 59 = .ok (.bipush (-13), 2) := bdX10_item_52.2.2.2.1
theorem dX10_item_61 : decode cX10_item 61 = .ok (.ireturn, 1) := bdX10_item_52.2.2.2.2.1
theorem dX10_item_62 : decode cX10_item 62 = .ok (.aload_n 0, 1) := bdX10_item_52.2.2.2.2.2.1
theorem dX10_item_63 : decode cX10_item 63 = .ok (.getfield 66, 3) := bdX10_item_52.2.2.2.2.2.2.1
theorem dX10_item_66 : decode cX10_item 66 = .ok (.bipush 25, 2) := bdX10_item_52.2.2.2.2.2.2.2.1
theorem dX10_item_68 : decode cX10_item 68 = .ok (.iload_n 1, 1) := bdX10_item_52.2.2.2.2.2.2.2.2.1
theorem dX10_item_69 : decode cX10_item 69 = .ok (.imul, 1) := bdX10_item_52.2.2.2.2.2.2.2.2.2.1
theorem dX10_item_70 : decode cX10_item 70 = .ok (.iload_n 3, 1) := bdX10_item_52.2.2.2.2.2.2.2.2.2.2.1
theorem dX10_item_71 : decode cX10_item 71 = .ok (.iadd, 1) := bdX10_item_52.2.2.2.2.2.2.2.2.2.2.2.1
theorem dX10_item_72 : decode cX10_item 72 = .ok (.iload_n 2, 1) := bdX10_item_52.2.2.2.2.2.2.2.2.2.2.2.2.1
theorem dX10_item_73 : decode cX10_item 73 = .ok (.ifCond .ne 9, 3) := bdX10_item_52.2.2.2.2.2.2.2.2.2.2.2.2.2.1
theorem dX10_item_76 : decode cX10_item 76 = .ok (.iload 4, 2) := bdX10_item_52.2.2.2.2.2.2.2.2.2.2.2.2.2.2.1
theorem dX10_item_78 : decode cX10_item 78 = .ok (.i2b, 1) := bdX10_item_52.2.2.2.2.2.2.2.2.2.2.2.2.2.2.2
theorem bdX10_item_79 : (decode cX10_item 79 = .ok (.goto 5, 3)) ∧ (decode cX10_item 82 = .ok (.iload 4, 2)) ∧ (decode cX10_item 84 = .ok (.iastore, 1)) ∧ (decode cX10_item 85 = .ok (.iconst 1, 1)) ∧ (decode cX10_item 86 = .ok (.ireturn, 1)) := by decide +kernel
theorem dX10_item_79 : decode cX10_item 79 = .ok (.goto 5, 3) := bdX10_item_79.1
theorem dX10_item_82 : decode cX10_item 82 = .ok (.iload 4, 2) := bdX10_item_79.2.1
theorem dX10_item_84 : decode cX10_item 84 = .ok (.iastore, 1) := bdX10_item_79.2.2.1
theorem dX10_item_85 : decode cX10_item 85 = .ok (.iconst 1, 1) := bdX10_item_79.2.2.2.1
theorem dX10_item_86 : decode cX10_item 86 = .ok (.ireturn, 1) := bdX10_item_79.2.2.2.2
set_option maxHeartbeats 4000000 in
set_option maxRecDepth 100000 in
theorem k_X10_item (l : Launch) (dC : Nat → ClassId) (dI : Nat → Nat → Nat) (h : Nat → Nat) (cs : Nat → ClassId) (sz : Nat) (I : Nat → Int32) (L : Nat → Int64) (A : Nat → Nat → Int32) (Q : Nat → Nat → Int64) (x y z v : Int32) (hsz5 : ∀ i : Nat, i < 4 → ∃ n : Nat, n ≤ 25 ∧ A 26 i = nI n) : Met l yX10_item wsX10_item ({ frames := 2, cells := 0, slots := 0, locals := 45 }) (va_Pc [.ref (h 0), .int x, .int y, .int z, .int v] (xPre (dC, dI) (rW h cs I L A Q) (tysA cs) sz)) (va_Qi (fun (r : Int32) (u : RS) => ∃ f27 : Nat → Int32, ((∃ i j : Nat, i < 4 ∧ j < 3 ∧ x = nI i ∧ y = nI j ∧ r = nI 1 ∧ A 25 i = nI j ∧ ∃ n k : Nat, n ≤ 25 ∧ A 26 i = nI n ∧ k < n ∧ z = nI k ∧ f27 = upd (A 27) (25 * i + k) (if j = 0 then v.toInt8.toInt32 else v)) ∨ (∃ i j : Nat, i < 4 ∧ j < 3 ∧ x = nI i ∧ y = nI j ∧ r = -13 ∧ A 25 i = nI j ∧ ∃ n : Nat, n ≤ 25 ∧ A 26 i = nI n ∧ ¬ (0 ≤ z.toInt ∧ z.toInt ≤ (n : Int) - 1) ∧ f27 = A 27) ∨ (∃ i j : Nat, i < 4 ∧ j < 3 ∧ x = nI i ∧ y = nI j ∧ r = -12 ∧ 0 ≤ A 25 i ∧ ¬ A 25 i = nI j ∧ f27 = A 27) ∨ (∃ i j : Nat, i < 4 ∧ j < 3 ∧ x = nI i ∧ y = nI j ∧ r = -11 ∧ A 25 i < 0 ∧ f27 = A 27) ∨ (r = -1 ∧ (∀ i j : Nat, i < 4 → j < 3 → x = nI i → y = nI j → False) ∧ f27 = A 27)) ∧ u = (I, L, (va_up A 27 f27), Q)) (xB (dC, dI) (tysA cs) (va_A (rW h cs I L A Q) sz) (fun u : RS => rW h cs u.1 u.2.1 u.2.2.1 u.2.2.2)) (va_A (rW h cs I L A Q) sz)) 0 0 (va_A (rW h cs I L A Q) sz) := by
  refine Met.ofW (cc := cX10_item) (maxL := 5) (ret := (some .int)) (by decide) rfl ?_
  intro p e s m args below meth c s₁ B hml hv
  obtain ⟨rfl, hsz, hP, hK, hD0, hN⟩ := hv
  have hx := B.exec
  have hb := B.bytes
  have hr := B.returns
  have hts := atoms_spec (ws := wsX10_item) B.pre
  have hown : s.vm.findClass RX10 = some m.cls := findClass_of_methodNamed B.named
  have hlocks := B.notSynchronized
  subst hsz
  have hD := hD0.self (sz := s.heap.size)
  generalize hAe : va_A (rW h cs I L A Q) s.heap.size = A0 at hD ⊢
  have hA : ∀ q : Nat, s.heap.size ≤ q → A0 q := fun q h => by rw [← hAe]; exact Or.inr h
  have hl := lv_entry ([.ref (h 0), .int x, .int y, .int z, .int v]) (n := 5) (Nat.le_of_ble_eq_true rfl)
  rw [lg_entry_eq]
  generalize (lg_sl ([.ref (h 0), .int x, .int y, .int z, .int v]) ++ List.replicate (5 - (lg_sl ([.ref (h 0), .int x, .int y, .int z, .int v])).length) Slot.unset).toArray = ls at hl ⊢
  have hl : lv_has ls 5 [(0, .ref (h 0)), (1, .int x), (2, .int y), (3, .int z), (4, .int v)] := hl
  generalize hH : s.heap = H at hP ⊢
  have hS : va_S A0 s.heap H [] := by rw [← hH]; exact va_S.rf
  have hinX10 : ∀ w ∈ wsX100, w ∈ wsX10_item := by decide +kernel
  refine lv_iload_n hx hb dX10_item_0 rfl (lv_at hl 1 rfl) ?_
  refine xj_i (wc := ([] : va_W)) (wr := (rW h cs I L A Q)) hP hD hS hA [] [0, 1, 2, 3, 4, 5, 6, 7, 8, 9, 10, 11, 12, 13, 14, 15, 16] rfl rfl (by decide +kernel) (by decide +kernel) (va_runS (As := [.int x]) (rest := []) ⟨hx, hb, hml, hown, hts⟩ (k_X10_isSheet l dC dI h cs H.size I L A Q x) (va_cwS 1 hts gX10_item_X10_isSheet rfl rfl rfl (by decide +kernel) ⟨Nat.le_of_ble_eq_true rfl, Nat.le_of_ble_eq_true rfl⟩) (xpS (wc := ([] : va_W)) hP hD hK hN [] rfl (by decide) _) rfl rfl hl.1 rfl (lv_room (Nat.le_of_ble_eq_true rfl)) dX10_item_1 ⟨Nat.zero_le _, Nat.zero_le _⟩) (fun r_2 u_1 H locs hw hP hD hS => ?_)
  obtain ⟨hf_3, rfl⟩ := hw
  have hP : va_P (dC, dI) vwCl (rW h cs I L A Q) H := hP
  have hD : va_D A0 (rW h cs I L A Q) := hD
  rcases hf_3 with ⟨rfl, i_4, hi_5, hx_6⟩ | ⟨rfl, hn_7⟩
  · skip
    rw [hx_6] at hl
    refine xs_eqF (tgt := 14) hx hb dX10_item_4 (by decide) (by decide) ?_
    refine lv_iload_n hx hb dX10_item_7 rfl (lv_at hl 2 rfl) ?_
    refine xj_i (wc := ([] : va_W)) (wr := (rW h cs I L A Q)) hP hD hS hA [] [0, 1, 2, 3, 4, 5, 6, 7, 8, 9, 10, 11, 12, 13, 14, 15, 16] rfl rfl (by decide +kernel) (by decide +kernel) (va_runS (As := [.int y]) (rest := []) ⟨hx, hb, hml, hown, hts⟩ (k_X10_isLane l dC dI h cs H.size I L A Q y) (va_cwS 1 hts gX10_item_X10_isLane rfl rfl rfl (by decide +kernel) ⟨Nat.le_of_ble_eq_true rfl, Nat.le_of_ble_eq_true rfl⟩) (xpS (wc := ([] : va_W)) hP hD hK hN [] rfl (by decide) _) rfl rfl hl.1 rfl (lv_room (Nat.le_of_ble_eq_true rfl)) dX10_item_8 ⟨Nat.zero_le _, Nat.zero_le _⟩) (fun r_10 u_9 H locs hw hP hD hS => ?_)
    obtain ⟨hf_11, rfl⟩ := hw
    have hP : va_P (dC, dI) vwCl (rW h cs I L A Q) H := hP
    have hD : va_D A0 (rW h cs I L A Q) := hD
    rcases hf_11 with ⟨rfl, i_12, hi_13, hx_14⟩ | ⟨rfl, hn_15⟩
    · skip
      rw [hx_14] at hl
      refine xs_neT (tgt := 16) hx hb dX10_item_11 (by decide) (by decide) ?_
      refine lv_aload_n hx hb dX10_item_16 rfl (lv_at hl 0 rfl) ?_
      refine va_get (D := (dC, dI)) (ci := 10) (v := .ref (h 25)) (C := RX10) (T := TX10) (N := 28) hx hb hts hinX10 hown hK hP 0 rfl rfl 25 (by decide) (hts (.fieldLink RX10 60 "MixedWordsModel" "lanes" "[I") (by decide +kernel)) (fun _ h9 => h9) rfl dX10_item_17 ?_
      refine lv_iload_n hx hb dX10_item_20 rfl (lv_at hl 1 rfl) ?_
      refine xa_iald hx hb hK hP 14 0 rfl rfl (by omega) (by decide) dX10_item_21 ?_
      refine lv_if_ge (tgt := 28) hx hb dX10_item_22 (by decide) (fun c_22_16 => ?_) (fun c_22_16 => ?_)
      · skip
        refine lv_aload_n hx hb dX10_item_28 rfl (lv_at hl 0 rfl) ?_
        refine va_get (D := (dC, dI)) (ci := 10) (v := .ref (h 25)) (C := RX10) (T := TX10) (N := 28) hx hb hts hinX10 hown hK hP 0 rfl rfl 25 (by decide) (hts (.fieldLink RX10 60 "MixedWordsModel" "lanes" "[I") (by decide +kernel)) (fun _ h9 => h9) rfl dX10_item_29 ?_
        refine lv_iload_n hx hb dX10_item_32 rfl (lv_at hl 1 rfl) ?_
        refine xa_iald hx hb hK hP 14 0 rfl rfl (by omega) (by decide) dX10_item_33 ?_
        refine lv_iload_n hx hb dX10_item_34 rfl (lv_at hl 2 rfl) ?_
        refine lv_icmp_eq (tgt := 41) hx hb dX10_item_35 (by decide) (fun c_35_17 => ?_) (fun c_35_17 => ?_)
        · skip
          obtain ⟨nz, hnz, hze⟩ := hsz5 i_4 (by omega)
          refine lv_iload_n hx hb dX10_item_41 rfl (lv_at hl 3 rfl) ?_
          refine lv_i2l (v := z.toInt64) hx hb dX10_item_42 rfl ?_
          refine lv_lconst (v := 0) hx hb dX10_item_43 rfl ?_
          refine lv_aload_n hx hb dX10_item_44 rfl (lv_at hl 0 rfl) ?_
          refine va_get (D := (dC, dI)) (ci := 10) (v := .ref (h 26)) (C := RX10) (T := TX10) (N := 28) hx hb hts hinX10 hown hK hP 0 rfl rfl 26 (by decide) (hts (.fieldLink RX10 63 "MixedWordsModel" "sizes" "[I") (by decide +kernel)) (fun _ h9 => h9) rfl dX10_item_45 ?_
          refine lv_iload_n hx hb dX10_item_48 rfl (lv_at hl 1 rfl) ?_
          refine xa_iald hx hb hK hP 15 0 rfl rfl (by omega) (by decide) dX10_item_49 ?_
          refine lv_iconst (v := nI 1) hx hb dX10_item_50 (by decide) ?_
          refine lv_isub hx hb dX10_item_51 ?_
          refine lv_i2l (v := ((A 26 i_4) - (nI 1)).toInt64) hx hb dX10_item_52 rfl ?_
          refine xj_i (wc := ([] : va_W)) (wr := (rW h cs I L A Q)) hP hD hS hA [] [0, 1, 2, 3, 4, 5, 6, 7, 8, 9, 10, 11, 12, 13, 14, 15, 16] rfl rfl (by decide +kernel) (by decide +kernel) (va_runS (As := [.long z.toInt64, .long (0 : Int64), .long (((A 26 i_4) - (nI 1)).toInt64)]) (rest := []) ⟨hx, hb, hml, hown, hts⟩ (k_X10_in l dC dI h cs H.size I L A Q z.toInt64 (0 : Int64) (((A 26 i_4) - (nI 1)).toInt64)) (va_cwS 3 hts gX10_item_X10_in rfl rfl rfl (by decide +kernel) ⟨Nat.le_of_ble_eq_true rfl, Nat.le_of_ble_eq_true rfl⟩) (xpS (wc := ([] : va_W)) hP hD hK hN [] rfl (by decide) _) rfl rfl hl.1 rfl (lv_room (Nat.le_of_ble_eq_true rfl)) dX10_item_53 ⟨Nat.zero_le _, Nat.zero_le _⟩) (fun r_20 u_19 H locs hw hP hD hS => ?_)
          obtain ⟨hf_21, rfl⟩ := hw
          have hP : va_P (dC, dI) vwCl (rW h cs I L A Q) H := hP
          have hD : va_D A0 (rW h cs I L A Q) := hD
          rcases in_Z (a := 0) (b := (nz : Int) - 1) rfl (sz_L hnz hze) hf_21 with ⟨rfl, ha_22, hb_23⟩ | ⟨rfl, hn_24⟩
          · obtain ⟨hz9, -⟩ := nI_at ha_22
            obtain ⟨kz, hkz, hzk⟩ : ∃ k : Nat, k < nz ∧ z = nI k := ⟨z.toInt.toNat, by omega, hz9⟩
            rw [hzk] at hl
            refine xs_neT (tgt := 62) hx hb dX10_item_56 (by decide) (by decide) ?_
            refine lv_aload_n hx hb dX10_item_62 rfl (lv_at hl 0 rfl) ?_
            refine va_get (D := (dC, dI)) (ci := 10) (v := .ref (h 27)) (C := RX10) (T := TX10) (N := 28) hx hb hts hinX10 hown hK hP 0 rfl rfl 27 (by decide) (hts (.fieldLink RX10 66 "MixedWordsModel" "items" "[I") (by decide +kernel)) (fun _ h9 => h9) rfl dX10_item_63 ?_
            refine lv_bipush (v := nI 25) hx hb dX10_item_66 (by decide) ?_
            refine lv_iload_n hx hb dX10_item_68 rfl (lv_at hl 1 rfl) ?_
            refine lv_imul hx hb dX10_item_69 ?_
            refine xt_i (y := nI (25 * i_4)) (pk_mul _ _) ?_
            refine lv_iload_n hx hb dX10_item_70 rfl (lv_at hl 3 rfl) ?_
            refine lv_iadd hx hb dX10_item_71 ?_
            refine xt_i (y := nI ((25 * i_4) + kz)) (nI_add _ _) ?_
            refine lv_iload_n hx hb dX10_item_72 rfl (lv_at hl 2 rfl) ?_
            refine xz_ne (tgt := 82) hx hb dX10_item_73 (by decide) (by omega) (fun c_73_25 => ?_) (fun c_73_25 => ?_)
            · skip
              refine lv_iload hx hb dX10_item_82 (lv_at hl 4 rfl) ?_
              refine xa_iast hx hb hK hP hD hS 16 0 rfl rfl (by omega) (by decide) dX10_item_84 (fun H locs hP hD hS => ?_)
              have hP : va_P (dC, dI) vwCl (rW h cs I L (va_up A 27 (upd (A 27) ((25 * i_4) + kz) v)) Q) H := hP
              have hD : va_D A0 (rW h cs I L (va_up A 27 (upd (A 27) ((25 * i_4) + kz) v)) Q) := hD
              refine lv_iconst (v := nI 1) hx hb dX10_item_85 (by decide) ?_
              exact xr_i (v := (nI 1)) hx hb hr hlocks hK hS dX10_item_86 (I, L, (va_up A 27 (upd (A 27) ((25 * i_4) + kz) v)), Q) ⟨(upd (A 27) ((25 * i_4) + kz) v), (Or.inl ⟨i_4, i_12, hi_5, hi_13, hx_6, hx_14, rfl, by first | assumption | (rw [← hx_14]; assumption), nz, kz, hnz, hze, hkz, hzk, by first | (rw [if_pos (by assumption)]) | (rw [if_neg (by assumption)])⟩), rfl⟩ hP hD
            · skip
              refine lv_iload hx hb dX10_item_76 (lv_at hl 4 rfl) ?_
              refine lv_i2b (v := v.toInt8.toInt32) hx hb dX10_item_78 rfl ?_
              refine lv_goto (tgt := 84) hx hb dX10_item_79 (by decide) ?_
              refine xa_iast hx hb hK hP hD hS 16 0 rfl rfl (by omega) (by decide) dX10_item_84 (fun H locs hP hD hS => ?_)
              have hP : va_P (dC, dI) vwCl (rW h cs I L (va_up A 27 (upd (A 27) ((25 * i_4) + kz) v.toInt8.toInt32)) Q) H := hP
              have hD : va_D A0 (rW h cs I L (va_up A 27 (upd (A 27) ((25 * i_4) + kz) v.toInt8.toInt32)) Q) := hD
              refine lv_iconst (v := nI 1) hx hb dX10_item_85 (by decide) ?_
              exact xr_i (v := (nI 1)) hx hb hr hlocks hK hS dX10_item_86 (I, L, (va_up A 27 (upd (A 27) ((25 * i_4) + kz) v.toInt8.toInt32)), Q) ⟨(upd (A 27) ((25 * i_4) + kz) v.toInt8.toInt32), (Or.inl ⟨i_4, i_12, hi_5, hi_13, hx_6, hx_14, rfl, by first | assumption | (rw [← hx_14]; assumption), nz, kz, hnz, hze, hkz, hzk, by first | (rw [if_pos (by assumption)]) | (rw [if_neg (by assumption)])⟩), rfl⟩ hP hD
          · skip
            refine xs_neF (tgt := 62) hx hb dX10_item_56 (by decide) (by decide) ?_
            refine lv_bipush (v := (-13)) hx hb dX10_item_59 (by decide) ?_
            exact xr_i (v := (-13)) hx hb hr hlocks hK hS dX10_item_61 (I, L, (va_up A 27 (A 27)), Q) ⟨(A 27), (Or.inr (Or.inl ⟨i_4, i_12, hi_5, hi_13, hx_6, hx_14, rfl, by first | assumption | (rw [← hx_14]; assumption), nz, hnz, hze, hn_24, rfl⟩)), rfl⟩ hP hD
        · skip
          refine lv_bipush (v := (-12)) hx hb dX10_item_38 (by decide) ?_
          exact xr_i (v := (-12)) hx hb hr hlocks hK hS dX10_item_40 (I, L, (va_up A 27 (A 27)), Q) ⟨(A 27), (Or.inr (Or.inr (Or.inl ⟨i_4, i_12, hi_5, hi_13, hx_6, hx_14, rfl, by assumption, by assumption, rfl⟩))), rfl⟩ hP hD
      · skip
        refine lv_bipush (v := (-11)) hx hb dX10_item_25 (by decide) ?_
        exact xr_i (v := (-11)) hx hb hr hlocks hK hS dX10_item_27 (I, L, (va_up A 27 (A 27)), Q) ⟨(A 27), (Or.inr (Or.inr (Or.inr (Or.inl ⟨i_4, i_12, hi_5, hi_13, hx_6, hx_14, rfl, Int32.not_le.mp (by assumption), rfl⟩)))), rfl⟩ hP hD
    · skip
      refine xs_neF (tgt := 16) hx hb dX10_item_11 (by decide) (by decide) ?_
      refine lv_iconst (v := (-1)) hx hb dX10_item_14 (by decide) ?_
      exact xr_i (v := (-1)) hx hb hr hlocks hK hS dX10_item_15 (I, L, (va_up A 27 (A 27)), Q) ⟨(A 27), (Or.inr (Or.inr (Or.inr (Or.inr ⟨rfl, fun i j a b c d => hn_15 j b d, rfl⟩)))), rfl⟩ hP hD
  · skip
    refine xs_eqT (tgt := 14) hx hb dX10_item_4 (by decide) (by decide) ?_
    refine lv_iconst (v := (-1)) hx hb dX10_item_14 (by decide) ?_
    exact xr_i (v := (-1)) hx hb hr hlocks hK hS dX10_item_15 (I, L, (va_up A 27 (A 27)), Q) ⟨(A 27), (Or.inr (Or.inr (Or.inr (Or.inr ⟨rfl, fun i j a b c d => hn_7 i a c, rfl⟩)))), rfl⟩ hP hD
set_option maxRecDepth 20000 in
theorem ggX10_rows_X10_isSheet : GoodIn wsX10_rows wsX10_isSheet := goodIn_r _ [10, 11, 12, 13, 9, 14] rfl (by decide +kernel)
set_option maxRecDepth 20000 in
theorem gX10_rows_X10_isSheet : GoodIn wsX10_rows (va_wsS RX10 241 yX10_isSheet wsX10_isSheet) := goodIn_app (goodIn_of _ (by decide +kernel)) ggX10_rows_X10_isSheet
set_option maxRecDepth 20000 in
theorem ggX10_rows_X10_isLane : GoodIn wsX10_rows wsX10_isLane := goodIn_r _ [17, 18, 12, 13, 9, 14] rfl (by decide +kernel)
set_option maxRecDepth 20000 in
theorem gX10_rows_X10_isLane : GoodIn wsX10_rows (va_wsS RX10 244 yX10_isLane wsX10_isLane) := goodIn_app (goodIn_of _ (by decide +kernel)) ggX10_rows_X10_isLane
set_option maxRecDepth 20000 in
theorem ggX10_rows_X10_in : GoodIn wsX10_rows wsX10_in := goodIn_r _ [14] rfl (by decide +kernel)
set_option maxRecDepth 20000 in
theorem gX10_rows_X10_in : GoodIn wsX10_rows (va_wsS RX10 77 yX10_in wsX10_in) := goodIn_app (goodIn_of _ (by decide +kernel)) ggX10_rows_X10_in
set_option maxRecDepth 20000 in
theorem ggX10_rows_X10_place : GoodIn wsX10_rows wsX10_place := goodIn_r _ [22, 2, 29, 30, 31, 32, 33, 34, 35, 36, 37, 38, 39, 40, 41, 42, 43, 44, 45, 46, 47, 48, 49, 50, 51, 52, 53, 54, 55, 56] rfl (by decide +kernel)
set_option maxRecDepth 20000 in
theorem gX10_rows_X10_place : GoodIn wsX10_rows (wsV RX10 97 RX10 yX10_place wsX10_place) := goodIn_app (goodIn_of _ (by decide +kernel)) ggX10_rows_X10_place
set_option maxRecDepth 20000 in
theorem ggX10_rows_X10_forget : GoodIn wsX10_rows wsX10_forget := goodIn_r _ [26, 27, 28, 29, 30, 31, 32, 33, 34, 35, 36, 37, 38, 39, 40, 41, 42, 43, 44, 45, 46, 47, 48, 49, 50, 51, 52, 53, 54, 55, 56] rfl (by decide +kernel)
set_option maxRecDepth 20000 in
theorem gX10_rows_X10_forget : GoodIn wsX10_rows (wsV RX10 83 RX10 yX10_forget wsX10_forget) := goodIn_app (goodIn_of _ (by decide +kernel)) ggX10_rows_X10_forget
theorem bdX10_rows_0 : (decode cX10_rows 0 = .ok (.iload_n 1, 1)) ∧ (decode cX10_rows 1 = .ok (.invokestatic 241, 3)) ∧ (decode cX10_rows 4 = .ok (.ifCond .eq 10, 3)) ∧ (decode cX10_rows 7 = .ok (.iload_n 2, 1)) ∧ (decode cX10_rows 8 = .ok (.invokestatic 244, 3)) ∧ (decode cX10_rows 11 = .ok (.ifCond .ne 5, 3)) ∧ (decode cX10_rows 14 = .ok (.iconst (-1), 1)) ∧ (decode cX10_rows 15 = .ok (.ireturn, 1)) ∧ (decode cX10_rows 16 = .ok (.aload_n 0, 1)) ∧ (decode cX10_rows 17 = .ok (.getfield 60, 3)) ∧ (decode cX10_rows 20 = .ok (.iload_n 1, 1)) ∧ (decode cX10_rows 21 = .ok (.iaload, 1)) ∧ (decode cX10_rows 22 = .ok (.ifCond .ge 6, 3)) ∧ (decode cX10_rows 25 = .ok (.bipush (-11), 2)) ∧ (decode cX10_rows 27 = .ok (.ireturn, 1)) ∧ (decode cX10_rows 28 = .ok (.aload_n 0, 1)) := by decide +kernel
theorem dX10_rows_0 : decode cX10_rows 0 = .ok (.iload_n 1, 1) := bdX10_rows_0.1
theorem dX10_rows_1 : decode cX10_rows 1 = .ok (.invokestatic 241, 3) := bdX10_rows_0.2.1
theorem dX10_rows_4 : decode cX10_rows 4 = .ok (.ifCond .eq 10, 3) := bdX10_rows_0.2.2.1
theorem dX10_rows_7 : decode cX10_rows 7 = .ok (.iload_n 2, 1) := bdX10_rows_0.2.2.2.1
theorem dX10_rows_8 : decode cX10_rows 8 = .ok (.invokestatic 244, 3) := bdX10_rows_0.2.2.2.2.1
theorem dX10_rows_11 : decode cX10_rows 11 = .ok (.ifCond .ne 5, 3) := bdX10_rows_0.2.2.2.2.2.1
theorem dX10_rows_14 : decode cX10_rows 14 = .ok (.iconst (-1), 1) := bdX10_rows_0.2.2.2.2.2.2.1
theorem dX10_rows_15 : decode cX10_rows 15 = .ok (.ireturn, 1) := bdX10_rows_0.2.2.2.2.2.2.2.1
theorem dX10_rows_16 : decode cX10_rows 16 = .ok (.aload_n 0, 1) := bdX10_rows_0.2.2.2.2.2.2.2.2.1
theorem dX10_rows_17 : decode cX10_rows 17 = .ok (.getfield 60, 3) := bdX10_rows_0.2.2.2.2.2.2.2.2.2.1
theorem dX10_rows_20 : decode cX10_rows 20 = .ok (.iload_n 1, 1) := bdX10_rows_0.2.2.2.2.2.2.2.2.2.2.1
theorem dX10_rows_21 : decode cX10_rows 21 = .ok (.iaload, 1) := bdX10_rows_0.2.2.2.2.2.2.2.2.2.2.2.1
theorem dX10_rows_22 : decode cX10_rows 22 = .ok (.ifCond .ge 6, 3) := bdX10_rows_0.2.2.2.2.2.2.2.2.2.2.2.2.1
theorem dX10_rows_25 : decode cX10_rows 25 = .ok (.bipush (-11), 2) := bdX10_rows_0.2.2.2.2.2.2.2.2.2.2.2.2.2.1
theorem dX10_rows_27 : decode cX10_rows 27 = .ok (.ireturn, 1) := bdX10_rows_0.2.2.2.2.2.2.2.2.2.2.2.2.2.2.1
theorem dX10_rows_28 : decode cX10_rows 28 = .ok (.aload_n 0, 1) := bdX10_rows_0.2.2.2.2.2.2.2.2.2.2.2.2.2.2.2
theorem bdX10_rows_29 : (decode cX10_rows 29 = .ok (.getfield 60, 3)) ∧ (decode cX10_rows 32 = .ok (.iload_n 1, 1)) ∧ (decode cX10_rows 33 = .ok (.iaload, 1)) ∧ (decode cX10_rows 34 = .ok (.iload_n 2, 1)) ∧ (decode cX10_rows 35 = .ok (.if_icmp .eq 6, 3)) ∧ (decode cX10_rows 38 = .ok (.bipush (-12), 2)) ∧ (decode cX10_rows 40 = .ok (.ireturn, 1)) ∧ (decode cX10_rows 41 = .ok (.aload_n 0, 1)) ∧ (decode cX10_rows 42 = .ok (.getfield 13, 3)) ∧ (decode cX10_rows 45 = .ok (.iconst 1, 1)) ∧ (decode cX10_rows 46 = .ok (.iadd, 1)) ∧ (decode cX10_rows 47 = .ok (.istore 4, 2)) ∧ (decode cX10_rows 49 = .ok (.iload_n 3, 1)) ∧ (decode cX10_rows 50 = .ok (.ifCond .lt 25, 3)) ∧ (decode cX10_rows 53 = .ok (.iload_n 3, 1)) ∧ (decode cX10_rows 54 = .ok (.i2l, 1)) := by decide +kernel
theorem dX10_rows_29 : decode cX10_rows 29 = .ok (.getfield 60, 3) := bdX10_rows_29.1
theorem dX10_rows_32 : decode cX10_rows 32 = .ok (.iload_n 1, 1) := bdX10_rows_29.2.1
theorem dX10_rows_33 : decode cX10_rows 33 = .ok (.iaload, 1) := bdX10_rows_29.2.2.1
theorem dX10_rows_34 : decode cX10_rows 34 = .ok (.iload_n 2, 1) := bdX10_rows_29.2.2.2.1
theorem dX10_rows_35 : decode cX10_rows 35 = .ok (.if_icmp .eq 6, 3) := bdX10_rows_29.2.2.2.2.1
theorem dX10_rows_38 : decode cX10_rows 38 = .ok (.bipush (-12), 2) := bdX10_rows_29.2.2.2.2.2.1
theorem dX10_rows_40 : decode cX10_rows 40 = .ok (.ireturn, 1) := bdX10_rows_29.2.2.2.2.2.2.1
theorem dX10_rows_41 : decode cX10_rows 41 = .ok (.aload_n 0, 1) := bdX10_rows_29.2.2.2.2.2.2.2.1
theorem dX10_rows_42 : decode cX10_rows 42 = .ok (.getfield 13, 3) := bdX10_rows_29.2.2.2.2.2.2.2.2.1
theorem dX10_rows_45 : decode cX10_rows 45 = .ok (.iconst 1, 1) := bdX10_rows_29.2.2.2.2.2.2.2.2.2.1
theorem dX10_rows_46 : decode cX10_rows 46 = .ok (.iadd, 1) := bdX10_rows_29.2.2.2.2.2.2.2.2.2.2.1
theorem dX10_rows_47 : decode cX10_rows 47 = .ok (.istore 4, 2) := bdX10_rows_29.2.2.2.2.2.2.2.2.2.2.2.1
theorem dX10_rows_49 : decode cX10_rows 49 = .ok (.iload_n 3, 1) := bdX10_rows_29.2.2.2.2.2.2.2.2.2.2.2.2.1
theorem dX10_rows_50 : decode cX10_rows 50 = .ok (.ifCond .lt 25, 3) := bdX10_rows_29.2.2.2.2.2.2.2.2.2.2.2.2.2.1
theorem dX10_rows_53 : decode cX10_rows 53 = .ok (.iload_n 3, 1) := bdX10_rows_29.2.2.2.2.2.2.2.2.2.2.2.2.2.2.1
theorem dX10_rows_54 : decode cX10_rows 54 = .ok (.i2l, 1) := bdX10_rows_29.2.2.2.2.2.2.2.2.2.2.2.2.2.2.2
theorem bdX10_rows_55 : (decode cX10_rows 55 = .ok (.aload_n 0, 1)) ∧ (decode cX10_rows 56 = .ok (.getfield 7, 3)) ∧ (decode cX10_rows 59 = .ok (.iload 4, 2)) ∧ (decode cX10_rows 61 = .ok (.imul, 1)) ∧ (decode cX10_rows 62 = .ok (.i2l, 1)) ∧ (decode cX10_rows 63 = .ok (.ladd, 1)) ∧ (decode cX10_rows 64 = .ok (.aload_n 0, 1)) ∧ (decode cX10_rows 65 = .ok (.getfield 63, 3)) ∧ (decode cX10_rows 68 = .ok (.iload_n 1, 1)) ∧ (decode cX10_rows 69 = .ok (.iaload, 1)) ∧ (decode cX10_rows 70 = .ok (.i2l, 1)) ∧ (decode cX10_rows 71 = .ok (.lcmp, 1)) ∧ (decode cX10_rows 72 = .ok (.ifCond .le 6, 3)) ∧ (decode cX10_rows 75 = .ok (.bipush (-13), 2)) ∧ (decode cX10_rows 77 = .ok (.ireturn, 1)) ∧ (decode cX10_rows 78 = .ok (.bipush 25, 2)) := by decide +kernel
theorem dX10_rows_55 : decode cX10_rows 55 = .ok (.aload_n 0, 1) := bdX10_rows_55.1
theorem dX10_rows_56 : decode cX10_rows 56 = .ok (.getfield 7, 3) := bdX10_rows_55.2.1
theorem dX10_rows_59 : decode cX10_rows 59 = .ok (.iload 4, 2) := bdX10_rows_55.2.2.1
theorem dX10_rows_61 : decode cX10_rows 61 = .ok (.imul, 1) := bdX10_rows_55.2.2.2.1
theorem dX10_rows_62 : decode cX10_rows 62 = .ok (.i2l, 1) := bdX10_rows_55.2.2.2.2.1
theorem dX10_rows_63 : decode cX10_rows 63 = .ok (.ladd, 1) := bdX10_rows_55.2.2.2.2.2.1
theorem dX10_rows_64 : decode cX10_rows 64 = .ok (.aload_n 0, 1) := bdX10_rows_55.2.2.2.2.2.2.1
theorem dX10_rows_65 : decode cX10_rows 65 = .ok (.getfield 63, 3) := bdX10_rows_55.2.2.2.2.2.2.2.1
theorem dX10_rows_68 : decode cX10_rows 68 = .ok (.iload_n 1, 1) := bdX10_rows_55.2.2.2.2.2.2.2.2.1
theorem dX10_rows_69 : decode cX10_rows 69 = .ok (.iaload, 1) := bdX10_rows_55.2.2.2.2.2.2.2.2.2.1
theorem dX10_rows_70 : decode cX10_rows 70 = .ok (.i2l, 1) := bdX10_rows_55.2.2.2.2.2.2.2.2.2.2.1
theorem dX10_rows_71 : decode cX10_rows 71 = .ok (.lcmp, 1) := bdX10_rows_55.2.2.2.2.2.2.2.2.2.2.2.1
theorem dX10_rows_72 : decode cX10_rows 72 = .ok (.ifCond .le 6, 3) := bdX10_rows_55.2.2.2.2.2.2.2.2.2.2.2.2.1
theorem dX10_rows_75 : decode cX10_rows 75 = .ok (.bipush (-13), 2) := bdX10_rows_55.2.2.2.2.2.2.2.2.2.2.2.2.2.1
theorem dX10_rows_77 : decode cX10_rows 77 = .ok (.ireturn, 1) := bdX10_rows_55.2.2.2.2.2.2.2.2.2.2.2.2.2.2.1
theorem dX10_rows_78 : decode cX10_rows 78 = .ok (.bipush 25, 2) := bdX10_rows_55.2.2.2.2.2.2.2.2.2.2.2.2.2.2.2
theorem bdX10_rows_80 : (decode cX10_rows 80 = .ok (.iload_n 1, 1)) ∧ (decode cX10_rows 81 = .ok (.imul, 1)) ∧ (decode cX10_rows 82 = .ok (.iload_n 3, 1)) ∧ (decode cX10_rows 83 = .ok (.iadd, 1)) ∧ (decode cX10_rows 84 = .ok (.istore 5, 2)) ∧ (decode cX10_rows 86 = .ok (.iconst 0, 1)) ∧ (decode cX10_rows 87 = .ok (.istore 6, 2)) ∧ (decode cX10_rows 89 = .ok (.iload 6, 2)) ∧ (decode cX10_rows 91 = .ok (.aload_n 0, 1)) ∧ (decode cX10_rows 92 = .ok (.getfield 7, 3)) ∧ (decode cX10_rows 95 = .ok (.iload 4, 2)) ∧ (decode cX10_rows 97 = .ok (.imul, 1)) ∧ (decode cX10_rows 98 = .ok (.if_icmp .ge 58, 3)) ∧ (decode cX10_rows 101 = .ok (.iload 6, 2)) ∧ (decode cX10_rows 103 = .ok (.iload 4, 2)) ∧ (decode cX10_rows 105 = .ok (.irem, 1)) := by decide +kernel
theorem dX10_rows_80 : decode cX10_rows 80 = .ok (.iload_n 1, 1) := bdX10_rows_80.1
theorem dX10_rows_81 : decode cX10_rows 81 = .ok (.imul, 1) := bdX10_rows_80.2.1
theorem dX10_rows_82 : decode cX10_rows 82 = .ok (.iload_n 3, 1) := bdX10_rows_80.2.2.1
theorem dX10_rows_83 : decode cX10_rows 83 = .ok (.iadd, 1) := bdX10_rows_80.2.2.2.1
theorem dX10_rows_84 : decode cX10_rows 84 = .ok (.istore 5, 2) := bdX10_rows_80.2.2.2.2.1
theorem dX10_rows_86 : decode cX10_rows 86 = .ok (.iconst 0, 1) := bdX10_rows_80.2.2.2.2.2.1
theorem dX10_rows_87 : decode cX10_rows 87 = .ok (.istore 6, 2) := bdX10_rows_80.2.2.2.2.2.2.1
theorem dX10_rows_89 : decode cX10_rows 89 = .ok (.iload 6, 2) := bdX10_rows_80.2.2.2.2.2.2.2.1
theorem dX10_rows_91 : decode cX10_rows 91 = .ok (.aload_n 0, 1) := bdX10_rows_80.2.2.2.2.2.2.2.2.1
theorem dX10_rows_92 : decode cX10_rows 92 = .ok (.getfield 7, 3) := bdX10_rows_80.2.2.2.2.2.2.2.2.2.1
theorem dX10_rows_95 : decode cX10_rows 95 = .ok (.iload 4, 2) := bdX10_rows_80.2.2.2.2.2.2.2.2.2.2.1
theorem dX10_rows_97 : decode cX10_rows 97 = .ok (.imul, 1) := bdX10_rows_80.2.2.2.2.2.2.2.2.2.2.2.1
theorem dX10_rows_98 : decode cX10_rows 98 = .ok (.if_icmp .ge 58, 3) := bdX10_rows_80.2.2.2.2.2.2.2.2.2.2.2.2.1
theorem dX10_rows_101 : decode cX10_rows 101 = .ok (.iload 6, 2) := bdX10_rows_80.2.2.2.2.2.2.2.2.2.2.2.2.2.1
theorem dX10_rows_103 : decode cX10_rows 103 = .ok (.iload 4, 2) := bdX10_rows_80.2.2.2.2.2.2.2.2.2.2.2.2.2.2.1
theorem dX10_rows_105 : decode cX10_rows 105 = .ok (.irem, 1) := bdX10_rows_80.2.2.2.2.2.2.2.2.2.2.2.2.2.2.2
theorem bdX10_rows_106 : (decode cX10_rows 106 = .ok (.aload_n 0, 1)) ∧ (decode cX10_rows 107 = .ok (.getfield 13, 3)) ∧ (decode cX10_rows 110 = .ok (.if_icmp .ne 9, 3)) ∧ (decode cX10_rows 113 = .ok (.sipush 999, 3)) ∧ (decode cX10_rows 116 = .ok (.goto 5, 3)) ∧ (decode cX10_rows 119 = .ok (.bipush 9, 2)) ∧ (decode cX10_rows 121 = .ok (.istore 7, 2)) ∧ (decode cX10_rows 123 = .ok (.aload_n 0, 1)) ∧ (decode cX10_rows 124 = .ok (.getfield 66, 3)) ∧ (decode cX10_rows 127 = .ok (.iload 5, 2)) ∧ (decode cX10_rows 129 = .ok (.iload 6, 2)) ∧ (decode cX10_rows 131 = .ok (.iadd, 1)) ∧ (decode cX10_rows 132 = .ok (.iaload, 1)) ∧ (decode cX10_rows 133 = .ok (.i2l, 1)) ∧ (decode cX10_rows 134 = .ok (.iload 7, 2)) ∧ (decode cX10_rows 136 = .ok (.ineg, 1)) := by decide +kernel
theorem dX10_rows_106 : decode cX10_rows 106 = .ok (.aload_n 0, 1) := bdX10_rows_106.1
theorem dX10_rows_107 : decode cX10_rows 107 = .ok (.getfield 13, 3) := bdX10_rows_106.2.1
theorem dX10_rows_110 : decode cX10_rows 110 = .ok (.if_icmp .ne 9, 3) := bdX10_rows_106.2.2.1
theorem dX10_rows_113 : decode cX10_rows 113 = .ok (.sipush 999, 3) := bdX10_rows_106.2.2.2.1
theorem dX10_rows_116 : decode cX10_rows 116 = .ok (.goto 5, 3) := bdX10_rows_106.2.2.2.2.1
theorem dX10_rows_119 : decode cX10_rows 119 = .ok (.bipush 9, 2) := bdX10_rows_106.2.2.2.2.2.1
theorem dX10_rows_121 : decode cX10_rows 121 = .ok (.istore 7, 2) := bdX10_rows_106.2.2.2.2.2.2.1
theorem dX10_rows_123 : decode cX10_rows 123 = .ok (.aload_n 0, 1) := bdX10_rows_106.2.2.2.2.2.2.2.1
theorem dX10_rows_124 : decode cX10_rows 124 = .ok (.getfield 66, 3) := bdX10_rows_106.2.2.2.2.2.2.2.2.1
theorem dX10_rows_127 : decode cX10_rows 127 = .ok (.iload 5, 2) := bdX10_rows_106.2.2.2.2.2.2.2.2.2.1
theorem dX10_rows_129 : decode cX10_rows 129 = .ok (.iload 6, 2) := bdX10_rows_106.2.2.2.2.2.2.2.2.2.2.1
theorem dX10_rows_131 : decode cX10_rows 131 = .ok (.iadd, 1) := bdX10_rows_106.2.2.2.2.2.2.2.2.2.2.2.1
theorem dX10_rows_132 : decode cX10_rows 132 = .ok (.iaload, 1) := bdX10_rows_106.2.2.2.2.2.2.2.2.2.2.2.2.1
theorem dX10_rows_133 : decode cX10_rows 133 = .ok (.i2l, 1) := bdX10_rows_106.2.2.2.2.2.2.2.2.2.2.2.2.2.1
theorem dX10_rows_134 : decode cX10_rows 134 = .ok (.iload 7, 2) := bdX10_rows_106.2.2.2.2.2.2.2.2.2.2.2.2.2.2.1
theorem dX10_rows_136 : decode cX10_rows 136 = .ok (.ineg, 1) := bdX10_rows_106.2.2.2.2.2.2.2.2.2.2.2.2.2.2.2
theorem bdX10_rows_137 : (decode cX10_rows 137 = .ok (.i2l, 1)) ∧ (decode cX10_rows 138 = .ok (.iload 7, 2)) ∧ (decode cX10_rows 140 = .ok (.i2l, 1)) ∧ (decode cX10_rows 141 = .ok (.invokestatic 77, 3)) ∧ (decode cX10_rows 144 = .ok (.ifCond .ne 6, 3)) ∧ (decode cX10_rows 147 = .ok (.bipush (-2), 2)) ∧ (decode cX10_rows 149 = .ok (.ireturn, 1)) ∧ (decode cX10_rows 150 = .ok (.iinc 6 1, 3)) ∧ (decode cX10_rows 153 = .ok (.goto (-64), 3)) ∧ (decode cX10_rows 156 = .ok (.iconst 0, 1)) ∧ (decode cX10_rows 157 = .ok (.istore 6, 2)) ∧ (decode cX10_rows 159 = .ok (.iload 6, 2)) ∧ (decode cX10_rows 161 = .ok (.aload_n 0, 1)) ∧ (decode cX10_rows 162 = .ok (.getfield 7, 3)) ∧ (decode cX10_rows 165 = .ok (.iload 4, 2)) ∧ (decode cX10_rows 167 = .ok (.imul, 1)) := by decide +kernel
theorem dX10_rows_137 : decode cX10_rows 137 = .ok (.i2l, 1) := bdX10_rows_137.1
theorem dX10_rows_138 : decode cX10_rows 138 = .ok (.iload 7, 2) := bdX10_rows_137.2.1
theorem dX10_rows_140 : decode cX10_rows 140 = .ok (.i2l, 1) := bdX10_rows_137.2.2.1
theorem dX10_rows_141 : decode cX10_rows 141 = .ok (.invokestatic 77, 3) := bdX10_rows_137.2.2.2.1
theorem dX10_rows_144 : decode cX10_rows 144 = .ok (.ifCond .ne 6, 3) := bdX10_rows_137.2.2.2.2.1
theorem dX10_rows_147 : decode cX10_rows 147 = .ok (.bipush (-2), 2) := bdX10_rows_137.2.2.2.2.2.1
theorem dX10_rows_149 : decode cX10_rows 149 = .ok (.ireturn, 1) := bdX10_rows_137.2.2.2.2.2.2.1
theorem dX10_rows_150 : decode cX10_rows 150 = .ok (.iinc 6 1, 3) := bdX10_rows_137.2.2.2.2.2.2.2.1
theorem dX10_rows_153 : decode cX10_rows 153 = .ok (.goto (-64), 3) := bdX10_rows_137.2.2.2.2.2.2.2.2.1
theorem dX10_rows_156 : decode cX10_rows 156 = .ok (.iconst 0, 1) := bdX10_rows_137.2.2.2.2.2.2.2.2.2.1
theorem dX10_rows_157 : decode cX10_rows 157 = .ok (.istore 6, 2) := bdX10_rows_137.2.2.2.2.2.2.2.2.2.2.1
theorem dX10_rows_159 : decode cX10_rows 159 = .ok (.iload 6, 2) := bdX10_rows_137.2.2.2.2.2.2.2.2.2.2.2.1
theorem dX10_rows_161 : decode cX10_rows 161 = .ok (.aload_n 0, 1) := bdX10_rows_137.2.2.2.2.2.2.2.2.2.2.2.2.1
theorem dX10_rows_162 : decode cX10_rows 162 = .ok (.getfield 7, 3) := bdX10_rows_137.2.2.2.2.2.2.2.2.2.2.2.2.2.1
theorem dX10_rows_165 : decode cX10_rows 165 = .ok (.iload 4, 2) := bdX10_rows_137.2.2.2.2.2.2.2.2.2.2.2.2.2.2.1
theorem dX10_rows_167 : decode cX10_rows 167 = .ok (.imul, 1) := bdX10_rows_137.2.2.2.2.2.2.2.2.2.2.2.2.2.2.2
theorem bdX10_rows_168 : (decode cX10_rows 168 = .ok (.if_icmp .ge 38, 3)) ∧ (decode cX10_rows 171 = .ok (.aload_n 0, 1)) ∧ (decode cX10_rows 172 = .ok (.getfield 19, 3)) ∧ (decode cX10_rows 175 = .ok (.aload_n 0, 1)) ∧ (decode cX10_rows 176 = .ok (.iload 6, 2)) ∧ (decode cX10_rows 178 = .ok (.iload 4, 2)) ∧ (decode cX10_rows 180 = .ok (.idiv, 1)) ∧ (decode cX10_rows 181 = .ok (.iload 6, 2)) ∧ (decode cX10_rows 183 = .ok (.iload 4, 2)) ∧ (decode cX10_rows 185 = .ok (.irem, 1)) ∧ (decode cX10_rows 186 = .ok (.invokevirtual 97, 3)) ∧ (decode cX10_rows 189 = .ok (.aload_n 0, 1)) ∧ (decode cX10_rows 190 = .ok (.getfield 66, 3)) ∧ (decode cX10_rows 193 = .ok (.iload 5, 2)) ∧ (decode cX10_rows 195 = .ok (.iload 6, 2)) ∧ (decode cX10_rows 197 = .ok (.iadd, 1)) := by decide +kernel
theorem dX10_rows_168 : decode cX10_rows 168 = .ok (.if_icmp .ge 38, 3) := bdX10_rows_168.1
theorem dX10_rows_171 : decode cX10_rows 171 = .ok (.aload_n 0, 1) := bdX10_rows_168.2.1
theorem dX10_rows_172 : decode cX10_rows 172 = .ok (.getfield 19, 3) := bdX10_rows_168.2.2.1
theorem dX10_rows_175 : decode cX10_rows 175 = .ok (.aload_n 0, 1) := bdX10_rows_168.2.2.2.1
theorem dX10_rows_176 : decode cX10_rows 176 = .ok (.iload 6, 2) := bdX10_rows_168.2.2.2.2.1
theorem dX10_rows_178 : decode cX10_rows 178 = .ok (.iload 4, 2) := bdX10_rows_168.2.2.2.2.2.1
theorem dX10_rows_180 : decode cX10_rows 180 = .ok (.idiv, 1) := bdX10_rows_168.2.2.2.2.2.2.1
theorem dX10_rows_181 : decode cX10_rows 181 = .ok (.iload 6, 2) := bdX10_rows_168.2.2.2.2.2.2.2.1
theorem dX10_rows_183 : decode cX10_rows 183 = .ok (.iload 4, 2) := bdX10_rows_168.2.2.2.2.2.2.2.2.1
theorem dX10_rows_185 : decode cX10_rows 185 = .ok (.irem, 1) := bdX10_rows_168.2.2.2.2.2.2.2.2.2.1
theorem dX10_rows_186 : decode cX10_rows 186 = .ok (.invokevirtual 97, 3) := bdX10_rows_168.2.2.2.2.2.2.2.2.2.2.1
theorem dX10_rows_189 : decode cX10_rows 189 = .ok (.aload_n 0, 1) := bdX10_rows_168.2.2.2.2.2.2.2.2.2.2.2.1
theorem dX10_rows_190 : decode cX10_rows 190 = .ok (.getfield 66, 3) := bdX10_rows_168.2.2.2.2.2.2.2.2.2.2.2.2.1
theorem dX10_rows_193 : decode cX10_rows 193 = .ok (.iload 5, 2) := bdX10_rows_168.2.2.2.2.2.2.2.2.2.2.2.2.2.1
theorem dX10_rows_195 : decode cX10_rows 195 = .ok (.iload 6, 2) := bdX10_rows_168.2.2.2.2.2.2.2.2.2.2.2.2.2.2.1
theorem dX10_rows_197 : decode cX10_rows 197 = .ok (.iadd, 1) := bdX10_rows_168.2.2.2.2.2.2.2.2.2.2.2.2.2.2.2
theorem bdX10_rows_198 : (decode cX10_rows 198 = .ok (.iaload, 1)) ∧ (decode cX10_rows 199 = .ok (.iastore, 1)) ∧ (decode cX10_rows 200 = .ok (.iinc 6 1, 3)) ∧ (decode cX10_rows 203 = .ok (.goto (-44), 3)) ∧ (decode cX10_rows 206 = .ok (.aload_n 0, 1)) ∧ (decode cX10_rows 207 = .ok (.invokevirtual 83, 3)) ∧ (decode cX10_rows 210 = .ok (.aload_n 0, 1)) ∧ (decode cX10_rows 211 = .ok (.getfield 7, 3)) ∧ (decode cX10_rows 214 = .ok (.ireturn, 1)) := by decide +kernel
theorem dX10_rows_198 : decode cX10_rows 198 = .ok (.iaload, 1) := bdX10_rows_198.1
theorem dX10_rows_199 : decode cX10_rows 199 = .ok (.iastore, 1) := bdX10_rows_198.2.1
theorem dX10_rows_200 : decode cX10_rows 200 = .ok (.iinc 6 1, 3) := bdX10_rows_198.2.2.1
theorem dX10_rows_203 : decode cX10_rows 203 = .ok (.goto (-44), 3) := bdX10_rows_198.2.2.2.1
theorem dX10_rows_206 : decode cX10_rows 206 = .ok (.aload_n 0, 1) := bdX10_rows_198.2.2.2.2.1
theorem dX10_rows_207 : decode cX10_rows 207 = .ok (.invokevirtual 83, 3) := bdX10_rows_198.2.2.2.2.2.1
theorem dX10_rows_210 : decode cX10_rows 210 = .ok (.aload_n 0, 1) := bdX10_rows_198.2.2.2.2.2.2.1
theorem dX10_rows_211 : decode cX10_rows 211 = .ok (.getfield 7, 3) := bdX10_rows_198.2.2.2.2.2.2.2.1
theorem dX10_rows_214 : decode cX10_rows 214 = .ok (.ireturn, 1) := bdX10_rows_198.2.2.2.2.2.2.2.2
set_option maxHeartbeats 4000000 in
set_option maxRecDepth 100000 in
theorem k_X10_rows (l : Launch) (dC : Nat → ClassId) (dI : Nat → Nat → Nat) (h : Nat → Nat) (cs : Nat → ClassId) (sz : Nat) (I : Nat → Int32) (L : Nat → Int64) (A : Nat → Nat → Int32) (Q : Nat → Nat → Int64) (x y z : Int32) (R M : Nat) (hR : I 0 = nI R) (hR1 : 1 ≤ R) (hR5 : R ≤ 5) (hM : I 1 = nI M) (hM1 : 1 ≤ M) (hM4 : M ≤ 4) (hsz5 : ∀ i : Nat, i < 4 → ∃ n : Nat, n ≤ 25 ∧ A 26 i = nI n) : Met l yX10_rows wsX10_rows ({ frames := 2, cells := 0, slots := 0, locals := 45 }) (va_Pc [.ref (h 0), .int x, .int y, .int z] (xPre (dC, dI) (rW h cs I L A Q) (tysA cs) sz)) (va_Qi (fun (r : Int32) (u : RS) => ∃ x4 : Int32, ∃ x5 : Int32, ∃ f3 : Nat → Int32, ((∃ i j : Nat, i < 4 ∧ j < 3 ∧ x = nI i ∧ y = nI j ∧ r = nI R ∧ A 25 i = nI j ∧ ∃ n k : Nat, n ≤ 25 ∧ A 26 i = nI n ∧ k + R * (M + 1) ≤ n ∧ z = nI k ∧ (∀ t : Nat, t < R * (M + 1) → okv M t (A 27 (25 * i + k + t)) ∧ f3 (plc M (t / (M + 1)) (t % (M + 1))) = A 27 (25 * i + k + t)) ∧ x4 = nI 0 ∧ x5 = nI 0) ∨ (∃ i j : Nat, i < 4 ∧ j < 3 ∧ x = nI i ∧ y = nI j ∧ r = -2 ∧ A 25 i = nI j ∧ ∃ n k : Nat, n ≤ 25 ∧ A 26 i = nI n ∧ k + R * (M + 1) ≤ n ∧ z = nI k ∧ (∃ t : Nat, t < R * (M + 1) ∧ ¬ okv M t (A 27 (25 * i + k + t))) ∧ x4 = I 4 ∧ x5 = I 5 ∧ f3 = A 3) ∨ (∃ i j : Nat, i < 4 ∧ j < 3 ∧ x = nI i ∧ y = nI j ∧ r = -13 ∧ A 25 i = nI j ∧ ∃ n : Nat, n ≤ 25 ∧ A 26 i = nI n ∧ (∀ k : Nat, k + R * (M + 1) ≤ n → z = nI k → False) ∧ x4 = I 4 ∧ x5 = I 5 ∧ f3 = A 3) ∨ (∃ i j : Nat, i < 4 ∧ j < 3 ∧ x = nI i ∧ y = nI j ∧ r = -12 ∧ 0 ≤ A 25 i ∧ ¬ A 25 i = nI j ∧ x4 = I 4 ∧ x5 = I 5 ∧ f3 = A 3) ∨ (∃ i j : Nat, i < 4 ∧ j < 3 ∧ x = nI i ∧ y = nI j ∧ r = -11 ∧ A 25 i < 0 ∧ x4 = I 4 ∧ x5 = I 5 ∧ f3 = A 3) ∨ (r = -1 ∧ (∀ i j : Nat, i < 4 → j < 3 → x = nI i → y = nI j → False) ∧ x4 = I 4 ∧ x5 = I 5 ∧ f3 = A 3)) ∧ u = ((va_up (va_up I 4 x4) 5 x5), L, (va_up A 3 f3), Q)) (xB (dC, dI) (tysA cs) (va_A (rW h cs I L A Q) sz) (fun u : RS => rW h cs u.1 u.2.1 u.2.2.1 u.2.2.2)) (va_A (rW h cs I L A Q) sz)) 0 0 (va_A (rW h cs I L A Q) sz) := by
  refine Met.ofW (cc := cX10_rows) (maxL := 8) (ret := (some .int)) (by decide) rfl ?_
  intro p e s m args below meth c s₁ B hml hv
  obtain ⟨rfl, hsz, hP, hK, hD0, hN⟩ := hv
  have hx := B.exec
  have hb := B.bytes
  have hr := B.returns
  have hts := atoms_spec (ws := wsX10_rows) B.pre
  have hown : s.vm.findClass RX10 = some m.cls := findClass_of_methodNamed B.named
  have hlocks := B.notSynchronized
  subst hsz
  have hD := hD0.self (sz := s.heap.size)
  generalize hAe : va_A (rW h cs I L A Q) s.heap.size = A0 at hD ⊢
  have hA : ∀ q : Nat, s.heap.size ≤ q → A0 q := fun q h => by rw [← hAe]; exact Or.inr h
  have hl := lv_entry ([.ref (h 0), .int x, .int y, .int z]) (n := 8) (Nat.le_of_ble_eq_true rfl)
  rw [lg_entry_eq]
  generalize (lg_sl ([.ref (h 0), .int x, .int y, .int z]) ++ List.replicate (8 - (lg_sl ([.ref (h 0), .int x, .int y, .int z])).length) Slot.unset).toArray = ls at hl ⊢
  have hl : lv_has ls 8 [(0, .ref (h 0)), (1, .int x), (2, .int y), (3, .int z)] := hl
  generalize hH : s.heap = H at hP ⊢
  have hS : va_S A0 s.heap H [] := by rw [← hH]; exact va_S.rf
  have hinX10 : ∀ w ∈ wsX100, w ∈ wsX10_rows := by decide +kernel
  have hRM : R * (M + 1) ≤ 25 := Nat.le_trans (Nat.mul_le_mul hR5 (show M + 1 ≤ 5 by omega)) (by decide)
  refine lv_iload_n hx hb dX10_rows_0 rfl (lv_at hl 1 rfl) ?_
  refine xj_i (wc := ([] : va_W)) (wr := (rW h cs I L A Q)) hP hD hS hA [] [0, 1, 2, 3, 4, 5, 6, 7, 8, 9, 10, 11, 12, 13, 14, 15, 16] rfl rfl (by decide +kernel) (by decide +kernel) (va_runS (As := [.int x]) (rest := []) ⟨hx, hb, hml, hown, hts⟩ (k_X10_isSheet l dC dI h cs H.size I L A Q x) (va_cwS 1 hts gX10_rows_X10_isSheet rfl rfl rfl (by decide +kernel) ⟨Nat.le_of_ble_eq_true rfl, Nat.le_of_ble_eq_true rfl⟩) (xpS (wc := ([] : va_W)) hP hD hK hN [] rfl (by decide) _) rfl rfl hl.1 rfl (lv_room (Nat.le_of_ble_eq_true rfl)) dX10_rows_1 ⟨Nat.zero_le _, Nat.zero_le _⟩) (fun r_2 u_1 H locs hw hP hD hS => ?_)
  obtain ⟨hf_3, rfl⟩ := hw
  have hP : va_P (dC, dI) vwCl (rW h cs I L A Q) H := hP
  have hD : va_D A0 (rW h cs I L A Q) := hD
  rcases hf_3 with ⟨rfl, i_4, hi_5, hx_6⟩ | ⟨rfl, hn_7⟩
  · skip
    rw [hx_6] at hl
    refine xs_eqF (tgt := 14) hx hb dX10_rows_4 (by decide) (by decide) ?_
    refine lv_iload_n hx hb dX10_rows_7 rfl (lv_at hl 2 rfl) ?_
    refine xj_i (wc := ([] : va_W)) (wr := (rW h cs I L A Q)) hP hD hS hA [] [0, 1, 2, 3, 4, 5, 6, 7, 8, 9, 10, 11, 12, 13, 14, 15, 16] rfl rfl (by decide +kernel) (by decide +kernel) (va_runS (As := [.int y]) (rest := []) ⟨hx, hb, hml, hown, hts⟩ (k_X10_isLane l dC dI h cs H.size I L A Q y) (va_cwS 1 hts gX10_rows_X10_isLane rfl rfl rfl (by decide +kernel) ⟨Nat.le_of_ble_eq_true rfl, Nat.le_of_ble_eq_true rfl⟩) (xpS (wc := ([] : va_W)) hP hD hK hN [] rfl (by decide) _) rfl rfl hl.1 rfl (lv_room (Nat.le_of_ble_eq_true rfl)) dX10_rows_8 ⟨Nat.zero_le _, Nat.zero_le _⟩) (fun r_10 u_9 H locs hw hP hD hS => ?_)
    obtain ⟨hf_11, rfl⟩ := hw
    have hP : va_P (dC, dI) vwCl (rW h cs I L A Q) H := hP
    have hD : va_D A0 (rW h cs I L A Q) := hD
    rcases hf_11 with ⟨rfl, i_12, hi_13, hx_14⟩ | ⟨rfl, hn_15⟩
    · skip
      rw [hx_14] at hl
      refine xs_neT (tgt := 16) hx hb dX10_rows_11 (by decide) (by decide) ?_
      refine lv_aload_n hx hb dX10_rows_16 rfl (lv_at hl 0 rfl) ?_
      refine va_get (D := (dC, dI)) (ci := 10) (v := .ref (h 25)) (C := RX10) (T := TX10) (N := 28) hx hb hts hinX10 hown hK hP 0 rfl rfl 25 (by decide) (hts (.fieldLink RX10 60 "MixedWordsModel" "lanes" "[I") (by decide +kernel)) (fun _ h9 => h9) rfl dX10_rows_17 ?_
      refine lv_iload_n hx hb dX10_rows_20 rfl (lv_at hl 1 rfl) ?_
      refine xa_iald hx hb hK hP 14 0 rfl rfl (by omega) (by decide) dX10_rows_21 ?_
      refine lv_if_ge (tgt := 28) hx hb dX10_rows_22 (by decide) (fun c_22_16 => ?_) (fun c_22_16 => ?_)
      · skip
        refine lv_aload_n hx hb dX10_rows_28 rfl (lv_at hl 0 rfl) ?_
        refine va_get (D := (dC, dI)) (ci := 10) (v := .ref (h 25)) (C := RX10) (T := TX10) (N := 28) hx hb hts hinX10 hown hK hP 0 rfl rfl 25 (by decide) (hts (.fieldLink RX10 60 "MixedWordsModel" "lanes" "[I") (by decide +kernel)) (fun _ h9 => h9) rfl dX10_rows_29 ?_
        refine lv_iload_n hx hb dX10_rows_32 rfl (lv_at hl 1 rfl) ?_
        refine xa_iald hx hb hK hP 14 0 rfl rfl (by omega) (by decide) dX10_rows_33 ?_
        refine lv_iload_n hx hb dX10_rows_34 rfl (lv_at hl 2 rfl) ?_
        refine lv_icmp_eq (tgt := 41) hx hb dX10_rows_35 (by decide) (fun c_35_17 => ?_) (fun c_35_17 => ?_)
        · skip
          obtain ⟨nz, hnz, hze⟩ := hsz5 i_4 (by omega)
          refine lv_aload_n hx hb dX10_rows_41 rfl (lv_at hl 0 rfl) ?_
          refine va_get (D := (dC, dI)) (ci := 10) (v := .int (I 1)) (C := RX10) (T := TX10) (N := 28) hx hb hts hinX10 hown hK hP 0 rfl rfl 1 (by decide) (hts (.fieldLink RX10 13 "MixedWordsModel" "columns" "I") (by decide +kernel)) (fun _ h9 => h9) rfl dX10_rows_42 ?_
          refine xt_i (y := nI M) (hM) ?_
          refine lv_iconst (v := nI 1) hx hb dX10_rows_45 (by decide) ?_
          refine lv_iadd hx hb dX10_rows_46 ?_
          refine xt_i (y := nI (M + 1)) (nI_add _ _) ?_
          refine lv_istore (lv' := [(4, .int (nI (M + 1))), (0, .ref (h 0)), (1, .int (nI i_4)), (2, .int (nI i_12)), (3, .int z)]) hx hb dX10_rows_47 hl (by decide) rfl (fun ls hl => ?_)
          refine lv_iload_n hx hb dX10_rows_49 rfl (lv_at hl 4 rfl) ?_
          refine lv_if_lt (tgt := 75) hx hb dX10_rows_50 (by decide) (fun c_50_18 => ?_) (fun c_50_18 => ?_)
          · skip
            refine lv_bipush (v := (-13)) hx hb dX10_rows_75 (by decide) ?_
            exact xr_i (v := (-13)) hx hb hr hlocks hK hS dX10_rows_77 ((va_up (va_up I 4 (I 4)) 5 (I 5)), L, (va_up A 3 (A 3)), Q) ⟨(I 4), (I 5), (A 3), (Or.inr (Or.inr (Or.inl ⟨i_4, i_12, hi_5, hi_13, hx_6, hx_14, rfl, by first | assumption | (rw [← hx_14]; assumption), nz, hnz, hze, (fun k hk e9 => by first | exact rows_no hRM hnz hze (by assumption) k hk e9 | (exact nI_pos (n := k) (by omega) (by rw [← e9]; assumption))), rfl, rfl, rfl⟩))), rfl⟩ hP hD
          · skip
            refine lv_iload_n hx hb dX10_rows_53 rfl (lv_at hl 4 rfl) ?_
            refine lv_i2l (v := z.toInt64) hx hb dX10_rows_54 rfl ?_
            refine lv_aload_n hx hb dX10_rows_55 rfl (lv_at hl 1 rfl) ?_
            refine va_get (D := (dC, dI)) (ci := 10) (v := .int (I 0)) (C := RX10) (T := TX10) (N := 28) hx hb hts hinX10 hown hK hP 0 rfl rfl 0 (by decide) (hts (.fieldLink RX10 7 "MixedWordsModel" "rows" "I") (by decide +kernel)) (fun _ h9 => h9) rfl dX10_rows_56 ?_
            refine xt_i (y := nI R) (hR) ?_
            refine lv_iload hx hb dX10_rows_59 (lv_at hl 0 rfl) ?_
            refine lv_imul hx hb dX10_rows_61 ?_
            refine xt_i (y := nI (R * (M + 1))) (pk_mul _ _) ?_
            refine lv_i2l (v := (nI (R * (M + 1))).toInt64) hx hb dX10_rows_62 rfl ?_
            refine lv_ladd hx hb dX10_rows_63 ?_
            refine lv_aload_n hx hb dX10_rows_64 rfl (lv_at hl 1 rfl) ?_
            refine va_get (D := (dC, dI)) (ci := 10) (v := .ref (h 26)) (C := RX10) (T := TX10) (N := 28) hx hb hts hinX10 hown hK hP 0 rfl rfl 26 (by decide) (hts (.fieldLink RX10 63 "MixedWordsModel" "sizes" "[I") (by decide +kernel)) (fun _ h9 => h9) rfl dX10_rows_65 ?_
            refine lv_iload_n hx hb dX10_rows_68 rfl (lv_at hl 2 rfl) ?_
            refine xa_iald hx hb hK hP 15 0 rfl rfl (by omega) (by decide) dX10_rows_69 ?_
            refine lv_i2l (v := (A 26 i_4).toInt64) hx hb dX10_rows_70 rfl ?_
            refine xl_le (tgt := 78) hx hb dX10_rows_71 dX10_rows_72 (by decide) (fun c_71_19 => ?_) (fun c_71_19 => ?_)
            · skip
              obtain ⟨kz, hkz, hzk⟩ := rows_at hRM hnz (by assumption) hze (by assumption)
              rw [hzk] at hl
              refine lv_bipush (v := nI 25) hx hb dX10_rows_78 (by decide) ?_
              refine lv_iload_n hx hb dX10_rows_80 rfl (lv_at hl 2 rfl) ?_
              refine lv_imul hx hb dX10_rows_81 ?_
              refine xt_i (y := nI (25 * i_4)) (pk_mul _ _) ?_
              refine lv_iload_n hx hb dX10_rows_82 rfl (lv_at hl 4 rfl) ?_
              refine lv_iadd hx hb dX10_rows_83 ?_
              refine xt_i (y := nI ((25 * i_4) + kz)) (nI_add _ _) ?_
              refine lv_istore (lv' := [(5, .int (nI ((25 * i_4) + kz))), (4, .int (nI (M + 1))), (0, .ref (h 0)), (1, .int (nI i_4)), (2, .int (nI i_12)), (3, .int (nI kz))]) hx hb dX10_rows_84 hl (by decide) rfl (fun ls hl => ?_)
              refine lv_iconst (v := nI 0) hx hb dX10_rows_86 (by decide) ?_
              refine lv_istore (lv' := [(6, .int (nI 0)), (5, .int (nI ((25 * i_4) + kz))), (4, .int (nI (M + 1))), (0, .ref (h 0)), (1, .int (nI i_4)), (2, .int (nI i_12)), (3, .int (nI kz))]) hx hb dX10_rows_87 hl (by decide) rfl (fun ls hl => ?_)
              have cut_89 : ∀ (nf : Nat) (k : Nat), (R * (M + 1) - k) < nf → (k ≤ R * (M + 1)) → (∀ t : Nat, t < k → okv M t (A 27 (25 * i_4 + kz + t))) → ∀ (H : Heap) (locs : List Loc) (ls : Array Slot), va_P (dC, dI) vwCl (rW h cs I L A Q) H → va_D A0 (rW h cs I L A Q) → va_S A0 s.heap H locs → lv_has ls 8 [(0, .ref (h 0)), (1, .int (nI i_4)), (2, .int (nI i_12)), (3, .int (nI kz)), (4, .int (nI (M + 1))), (5, .int (nI ((25 * i_4) + kz))), (6, .int (nI k))] → W p l e (headSpec wsX10_rows ({ frames := 2, cells := 0, slots := 0, locals := 45 })).room s m ([.ref (h 0), .int x, .int y, .int z] : List Value).toArray below meth c H locs 0 0 (MQ below (va_Qi (fun (r : Int32) (u : RS) => ∃ x4 : Int32, ∃ x5 : Int32, ∃ f3 : Nat → Int32, ((∃ i j : Nat, i < 4 ∧ j < 3 ∧ x = nI i ∧ y = nI j ∧ r = nI R ∧ A 25 i = nI j ∧ ∃ n k : Nat, n ≤ 25 ∧ A 26 i = nI n ∧ k + R * (M + 1) ≤ n ∧ z = nI k ∧ (∀ t : Nat, t < R * (M + 1) → okv M t (A 27 (25 * i + k + t)) ∧ f3 (plc M (t / (M + 1)) (t % (M + 1))) = A 27 (25 * i + k + t)) ∧ x4 = nI 0 ∧ x5 = nI 0) ∨ (∃ i j : Nat, i < 4 ∧ j < 3 ∧ x = nI i ∧ y = nI j ∧ r = -2 ∧ A 25 i = nI j ∧ ∃ n k : Nat, n ≤ 25 ∧ A 26 i = nI n ∧ k + R * (M + 1) ≤ n ∧ z = nI k ∧ (∃ t : Nat, t < R * (M + 1) ∧ ¬ okv M t (A 27 (25 * i + k + t))) ∧ x4 = I 4 ∧ x5 = I 5 ∧ f3 = A 3) ∨ (∃ i j : Nat, i < 4 ∧ j < 3 ∧ x = nI i ∧ y = nI j ∧ r = -13 ∧ A 25 i = nI j ∧ ∃ n : Nat, n ≤ 25 ∧ A 26 i = nI n ∧ (∀ k : Nat, k + R * (M + 1) ≤ n → z = nI k → False) ∧ x4 = I 4 ∧ x5 = I 5 ∧ f3 = A 3) ∨ (∃ i j : Nat, i < 4 ∧ j < 3 ∧ x = nI i ∧ y = nI j ∧ r = -12 ∧ 0 ≤ A 25 i ∧ ¬ A 25 i = nI j ∧ x4 = I 4 ∧ x5 = I 5 ∧ f3 = A 3) ∨ (∃ i j : Nat, i < 4 ∧ j < 3 ∧ x = nI i ∧ y = nI j ∧ r = -11 ∧ A 25 i < 0 ∧ x4 = I 4 ∧ x5 = I 5 ∧ f3 = A 3) ∨ (r = -1 ∧ (∀ i j : Nat, i < 4 → j < 3 → x = nI i → y = nI j → False) ∧ x4 = I 4 ∧ x5 = I 5 ∧ f3 = A 3)) ∧ u = ((va_up (va_up I 4 x4) 5 x5), L, (va_up A 3 f3), Q)) (xB (dC, dI) (tysA cs) A0 (fun u : RS => rW h cs u.1 u.2.1 u.2.2.1 u.2.2.2)) A0) ([.ref (h 0), .int x, .int y, .int z] : List Value).toArray s 0 0 A0) (F0 m 89 ls []) := by
                intro nf
                induction nf with
                | zero => intro k hm; exact absurd hm (Nat.not_lt_zero _)
                | succ nf ih_89 =>
                  intro k hm_89 hk_89 hok_89 H locs ls hP hD hS hl
                  refine lv_iload hx hb dX10_rows_89 (lv_at hl 6 rfl) ?_
                  refine lv_aload_n hx hb dX10_rows_91 rfl (lv_at hl 0 rfl) ?_
                  refine va_get (D := (dC, dI)) (ci := 10) (v := .int (I 0)) (C := RX10) (T := TX10) (N := 28) hx hb hts hinX10 hown hK hP 0 rfl rfl 0 (by decide) (hts (.fieldLink RX10 7 "MixedWordsModel" "rows" "I") (by decide +kernel)) (fun _ h9 => h9) rfl dX10_rows_92 ?_
                  refine xt_i (y := nI R) (hR) ?_
                  refine lv_iload hx hb dX10_rows_95 (lv_at hl 4 rfl) ?_
                  refine lv_imul hx hb dX10_rows_97 ?_
                  refine xt_i (y := nI (R * (M + 1))) (pk_mul _ _) ?_
                  refine xn_ge (tgt := 156) hx hb dX10_rows_98 (by decide) (by omega) (by omega) (fun c_98_20 => ?_) (fun c_98_20 => ?_)
                  · skip
                    refine lv_iconst (v := nI 0) hx hb dX10_rows_156 (by decide) ?_
                    refine lv_istore (lv' := [(6, .int (nI 0)), (0, .ref (h 0)), (1, .int (nI i_4)), (2, .int (nI i_12)), (3, .int (nI kz)), (4, .int (nI (M + 1))), (5, .int (nI ((25 * i_4) + kz)))]) hx hb dX10_rows_157 hl (by decide) rfl (fun ls hl => ?_)
                    have cut_159 : ∀ (nf : Nat) (k : Nat) (g : Nat → Int32), (R * (M + 1) - k) < nf → (k ≤ R * (M + 1)) → (∀ t : Nat, t < R * (M + 1) → okv M t (A 27 (25 * i_4 + kz + t))) → (∀ t : Nat, t < k → g (plc M (t / (M + 1)) (t % (M + 1))) = A 27 (25 * i_4 + kz + t)) → ∀ (H : Heap) (locs : List Loc) (ls : Array Slot), va_P (dC, dI) vwCl (rW h cs I L (va_up A 3 g) Q) H → va_D A0 (rW h cs I L (va_up A 3 g) Q) → va_S A0 s.heap H locs → lv_has ls 8 [(0, .ref (h 0)), (1, .int (nI i_4)), (2, .int (nI i_12)), (3, .int (nI kz)), (4, .int (nI (M + 1))), (5, .int (nI ((25 * i_4) + kz))), (6, .int (nI k))] → W p l e (headSpec wsX10_rows ({ frames := 2, cells := 0, slots := 0, locals := 45 })).room s m ([.ref (h 0), .int x, .int y, .int z] : List Value).toArray below meth c H locs 0 0 (MQ below (va_Qi (fun (r : Int32) (u : RS) => ∃ x4 : Int32, ∃ x5 : Int32, ∃ f3 : Nat → Int32, ((∃ i j : Nat, i < 4 ∧ j < 3 ∧ x = nI i ∧ y = nI j ∧ r = nI R ∧ A 25 i = nI j ∧ ∃ n k : Nat, n ≤ 25 ∧ A 26 i = nI n ∧ k + R * (M + 1) ≤ n ∧ z = nI k ∧ (∀ t : Nat, t < R * (M + 1) → okv M t (A 27 (25 * i + k + t)) ∧ f3 (plc M (t / (M + 1)) (t % (M + 1))) = A 27 (25 * i + k + t)) ∧ x4 = nI 0 ∧ x5 = nI 0) ∨ (∃ i j : Nat, i < 4 ∧ j < 3 ∧ x = nI i ∧ y = nI j ∧ r = -2 ∧ A 25 i = nI j ∧ ∃ n k : Nat, n ≤ 25 ∧ A 26 i = nI n ∧ k + R * (M + 1) ≤ n ∧ z = nI k ∧ (∃ t : Nat, t < R * (M + 1) ∧ ¬ okv M t (A 27 (25 * i + k + t))) ∧ x4 = I 4 ∧ x5 = I 5 ∧ f3 = A 3) ∨ (∃ i j : Nat, i < 4 ∧ j < 3 ∧ x = nI i ∧ y = nI j ∧ r = -13 ∧ A 25 i = nI j ∧ ∃ n : Nat, n ≤ 25 ∧ A 26 i = nI n ∧ (∀ k : Nat, k + R * (M + 1) ≤ n → z = nI k → False) ∧ x4 = I 4 ∧ x5 = I 5 ∧ f3 = A 3) ∨ (∃ i j : Nat, i < 4 ∧ j < 3 ∧ x = nI i ∧ y = nI j ∧ r = -12 ∧ 0 ≤ A 25 i ∧ ¬ A 25 i = nI j ∧ x4 = I 4 ∧ x5 = I 5 ∧ f3 = A 3) ∨ (∃ i j : Nat, i < 4 ∧ j < 3 ∧ x = nI i ∧ y = nI j ∧ r = -11 ∧ A 25 i < 0 ∧ x4 = I 4 ∧ x5 = I 5 ∧ f3 = A 3) ∨ (r = -1 ∧ (∀ i j : Nat, i < 4 → j < 3 → x = nI i → y = nI j → False) ∧ x4 = I 4 ∧ x5 = I 5 ∧ f3 = A 3)) ∧ u = ((va_up (va_up I 4 x4) 5 x5), L, (va_up A 3 f3), Q)) (xB (dC, dI) (tysA cs) A0 (fun u : RS => rW h cs u.1 u.2.1 u.2.2.1 u.2.2.2)) A0) ([.ref (h 0), .int x, .int y, .int z] : List Value).toArray s 0 0 A0) (F0 m 159 ls []) := by
                      intro nf
                      induction nf with
                      | zero => intro k g hm; exact absurd hm (Nat.not_lt_zero _)
                      | succ nf ih_159 =>
                        intro k g hm_159 hk_159 hok_159 hg_159 H locs ls hP hD hS hl
                        refine lv_iload hx hb dX10_rows_159 (lv_at hl 6 rfl) ?_
                        refine lv_aload_n hx hb dX10_rows_161 rfl (lv_at hl 0 rfl) ?_
                        refine va_get (D := (dC, dI)) (ci := 10) (v := .int (I 0)) (C := RX10) (T := TX10) (N := 28) hx hb hts hinX10 hown hK hP 0 rfl rfl 0 (by decide) (hts (.fieldLink RX10 7 "MixedWordsModel" "rows" "I") (by decide +kernel)) (fun _ h9 => h9) rfl dX10_rows_162 ?_
                        refine xt_i (y := nI R) (hR) ?_
                        refine lv_iload hx hb dX10_rows_165 (lv_at hl 4 rfl) ?_
                        refine lv_imul hx hb dX10_rows_167 ?_
                        refine xt_i (y := nI (R * (M + 1))) (pk_mul _ _) ?_
                        refine xn_ge (tgt := 206) hx hb dX10_rows_168 (by decide) (by omega) (by omega) (fun c_168_21 => ?_) (fun c_168_21 => ?_)
                        · skip
                          refine lv_aload_n hx hb dX10_rows_206 rfl (lv_at hl 0 rfl) ?_
                          refine xj_v (wc := (rW h cs I L (va_up A 3 g) Q)) (wr := ([] : va_W)) hP hD hS hA [0, 1, 2, 3, 4, 5, 6, 7, 8, 9, 10, 11, 12, 13, 14, 15, 16] [] rfl rfl (by decide +kernel) (by decide +kernel) (va_runV (As := []) (rest := []) ⟨hx, hb, hml, hown, hts⟩ (k_X10_forget l dC dI h cs H.size I L (va_up A 3 g) Q ) (cwV 0 hts gX10_rows_X10_forget rfl rfl rfl (by decide +kernel) ⟨Nat.le_of_ble_eq_true rfl, Nat.le_of_ble_eq_true rfl⟩) (xpV (wc := (rW h cs I L (va_up A 3 g) Q)) hP hD hK hN [0, 1, 2, 3, 4, 5, 6, 7, 8, 9, 10, 11, 12, 13, 14, 15, 16] rfl (by decide) 0 (ci := 10) rfl rfl _) rfl rfl hl.1 rfl (lv_room (Nat.le_of_ble_eq_true rfl)) dX10_rows_207 ⟨Nat.zero_le _, Nat.zero_le _⟩) (fun u_23 H locs hw hP hD hS => ?_)
                          obtain ⟨x4_25, x5_26, hf_27, rfl⟩ := hw
                          have hP : va_P (dC, dI) vwCl (rW h cs (va_up (va_up I 4 x4_25) 5 x5_26) L (va_up A 3 g) Q) H := hP
                          have hD : va_D A0 (rW h cs (va_up (va_up I 4 x4_25) 5 x5_26) L (va_up A 3 g) Q) := hD
                          obtain ⟨rfl, rfl⟩ := hf_27
                          refine lv_aload_n hx hb dX10_rows_210 rfl (lv_at hl 0 rfl) ?_
                          refine va_get (D := (dC, dI)) (ci := 10) (v := .int (I 0)) (C := RX10) (T := TX10) (N := 28) hx hb hts hinX10 hown hK hP 0 rfl rfl 0 (by decide) (hts (.fieldLink RX10 7 "MixedWordsModel" "rows" "I") (by decide +kernel)) (fun _ h9 => h9) rfl dX10_rows_211 ?_
                          refine xt_i (y := nI R) (hR) ?_
                          exact xr_i (v := (nI R)) hx hb hr hlocks hK hS dX10_rows_214 ((va_up (va_up I 4 (nI 0)) 5 (nI 0)), L, (va_up A 3 g), Q) ⟨(nI 0), (nI 0), g, (Or.inl ⟨i_4, i_12, hi_5, hi_13, hx_6, hx_14, rfl, by first | assumption | (rw [← hx_14]; assumption), nz, kz, hnz, hze, hkz, hzk, fun t ht => ⟨hok_159 t ht, hg_159 t (by omega)⟩, rfl, rfl⟩), rfl⟩ hP hD
                        · skip
                          have hkd : k / (M + 1) < R := Nat.div_lt_of_lt_mul (by rw [Nat.mul_comm]; omega)
                          have hkm : k % (M + 1) < M + 1 := Nat.mod_lt k (by omega)
                          refine lv_aload_n hx hb dX10_rows_171 rfl (lv_at hl 0 rfl) ?_
                          refine va_get (D := (dC, dI)) (ci := 10) (v := .ref (h 3)) (C := RX10) (T := TX10) (N := 28) hx hb hts hinX10 hown hK hP 0 rfl rfl 3 (by decide) (hts (.fieldLink RX10 19 "MixedWordsModel" "told" "[I") (by decide +kernel)) (fun _ h9 => h9) rfl dX10_rows_172 ?_
                          refine lv_aload_n hx hb dX10_rows_175 rfl (lv_at hl 0 rfl) ?_
                          refine lv_iload hx hb dX10_rows_176 (lv_at hl 6 rfl) ?_
                          refine lv_iload hx hb dX10_rows_178 (lv_at hl 4 rfl) ?_
                          refine lv_idiv hx hb dX10_rows_180 (nI_ne0 (by omega) (by omega)) ?_
                          refine xt_i (y := nI (k / (M + 1))) (pk_div (by omega) (by omega) (by omega)) ?_
                          refine lv_iload hx hb dX10_rows_181 (lv_at hl 6 rfl) ?_
                          refine lv_iload hx hb dX10_rows_183 (lv_at hl 4 rfl) ?_
                          refine lv_irem hx hb dX10_rows_185 (nI_ne0 (by omega) (by omega)) ?_
                          refine xt_i (y := nI (k % (M + 1))) (pk_rem (by omega) (by omega) (by omega)) ?_
                          refine xj_i (wc := (rW h cs I L (va_up A 3 g) Q)) (wr := ([] : va_W)) hP hD hS hA [0, 1, 2, 3, 4, 5, 6, 7, 8, 9, 10, 11, 12, 13, 14, 15, 16] [] rfl rfl (by decide +kernel) (by decide +kernel) (va_runV (As := [.int (nI (k / (M + 1))), .int (nI (k % (M + 1)))]) (rest := [.ref (h 3)]) ⟨hx, hb, hml, hown, hts⟩ (k_X10_place l dC dI h cs H.size I L (va_up A 3 g) Q (k / (M + 1)) (k % (M + 1)) M (by first | assumption | omega) (by first | assumption | omega) hM (by first | assumption | omega | exact hM1) (by first | assumption | omega | exact hM4)) (cwV 2 hts gX10_rows_X10_place rfl rfl rfl (by decide +kernel) ⟨Nat.le_of_ble_eq_true rfl, Nat.le_of_ble_eq_true rfl⟩) (xpV (wc := (rW h cs I L (va_up A 3 g) Q)) hP hD hK hN [0, 1, 2, 3, 4, 5, 6, 7, 8, 9, 10, 11, 12, 13, 14, 15, 16] rfl (by decide) 0 (ci := 10) rfl rfl _) rfl rfl hl.1 rfl (lv_room (Nat.le_of_ble_eq_true rfl)) dX10_rows_186 ⟨Nat.zero_le _, Nat.zero_le _⟩) (fun r_29 u_28 H locs hw hP hD hS => ?_)
                          obtain ⟨hf_30, rfl⟩ := hw
                          have hP : va_P (dC, dI) vwCl (rW h cs I L (va_up A 3 g) Q) H := hP
                          have hD : va_D A0 (rW h cs I L (va_up A 3 g) Q) := hD
                          obtain rfl := hf_30
                          have hpl_31 : plc M (k / (M + 1)) (k % (M + 1)) < 25 := plc_lt (by omega) (by omega) (by omega)
                          refine lv_aload_n hx hb dX10_rows_189 rfl (lv_at hl 0 rfl) ?_
                          refine va_get (D := (dC, dI)) (ci := 10) (v := .ref (h 27)) (C := RX10) (T := TX10) (N := 28) hx hb hts hinX10 hown hK hP 0 rfl rfl 27 (by decide) (hts (.fieldLink RX10 66 "MixedWordsModel" "items" "[I") (by decide +kernel)) (fun _ h9 => h9) rfl dX10_rows_190 ?_
                          refine lv_iload hx hb dX10_rows_193 (lv_at hl 5 rfl) ?_
                          refine lv_iload hx hb dX10_rows_195 (lv_at hl 6 rfl) ?_
                          refine lv_iadd hx hb dX10_rows_197 ?_
                          refine xt_i (y := nI (((25 * i_4) + kz) + k)) (nI_add _ _) ?_
                          refine xa_iald hx hb hK hP 16 0 rfl rfl (by omega) (by decide) dX10_rows_198 ?_
                          refine xa_iast hx hb hK hP hD hS 1 0 rfl rfl (by omega) (by decide) dX10_rows_199 (fun H locs hP hD hS => ?_)
                          have hP : va_P (dC, dI) vwCl (rW h cs I L (va_up A 3 (upd g (plc M (k / (M + 1)) (k % (M + 1))) (A 27 (((25 * i_4) + kz) + k)))) Q) H := hP
                          have hD : va_D A0 (rW h cs I L (va_up A 3 (upd g (plc M (k / (M + 1)) (k % (M + 1))) (A 27 (((25 * i_4) + kz) + k)))) Q) := hD
                          refine lv_iinc (v := nI (k + 1)) (lv' := [(6, .int (nI (k + 1))), (0, .ref (h 0)), (1, .int (nI i_4)), (2, .int (nI i_12)), (3, .int (nI kz)), (4, .int (nI (M + 1))), (5, .int (nI ((25 * i_4) + kz)))]) hx hb dX10_rows_200 hl (k := 6) rfl (nI_1 _) (by decide) rfl (fun ls hl => ?_)
                          refine lv_goto (tgt := 159) hx hb dX10_rows_203 (by decide) ?_
                          exact ih_159 (k + 1) (upd g (plc M (k / (M + 1)) (k % (M + 1))) (A 27 (((25 * i_4) + kz) + k))) (by omega) (by first | assumption | omega) (by first | exact hok_159 | exact (fun t ht => hok_89 t (by omega))) (by first | exact (fun t ht => absurd ht (Nat.not_lt_zero t)) | exact rows_s hM4 hg_159) _ _ _ hP hD hS (lv_sub hl [1, 2, 3, 4, 5, 6, 0] rfl)
                    exact cut_159 _ 0 (A 3) (Nat.lt_succ_self _) (by first | assumption | omega) (by first | exact hok_159 | exact (fun t ht => hok_89 t (by omega))) (by first | exact (fun t ht => absurd ht (Nat.not_lt_zero t)) | exact rows_s hM4 hg_159) _ _ _ hP hD hS (lv_sub hl [1, 2, 3, 4, 5, 6, 0] rfl)
                  · skip
                    have hkm : k % (M + 1) < M + 1 := Nat.mod_lt k (by omega)
                    refine lv_iload hx hb dX10_rows_101 (lv_at hl 6 rfl) ?_
                    refine lv_iload hx hb dX10_rows_103 (lv_at hl 4 rfl) ?_
                    refine lv_irem hx hb dX10_rows_105 (nI_ne0 (by omega) (by omega)) ?_
                    refine xt_i (y := nI (k % (M + 1))) (pk_rem (by omega) (by omega) (by omega)) ?_
                    refine lv_aload_n hx hb dX10_rows_106 rfl (lv_at hl 0 rfl) ?_
                    refine va_get (D := (dC, dI)) (ci := 10) (v := .int (I 1)) (C := RX10) (T := TX10) (N := 28) hx hb hts hinX10 hown hK hP 0 rfl rfl 1 (by decide) (hts (.fieldLink RX10 13 "MixedWordsModel" "columns" "I") (by decide +kernel)) (fun _ h9 => h9) rfl dX10_rows_107 ?_
                    refine xt_i (y := nI M) (hM) ?_
                    refine xn_ne (tgt := 119) hx hb dX10_rows_110 (by decide) (by omega) (by omega) (fun c_110_31 => ?_) (fun c_110_31 => ?_)
                    · skip
                      refine lv_bipush (v := nI 9) hx hb dX10_rows_119 (by decide) ?_
                      refine lv_istore (lv' := [(7, .int (nI 9)), (0, .ref (h 0)), (1, .int (nI i_4)), (2, .int (nI i_12)), (3, .int (nI kz)), (4, .int (nI (M + 1))), (5, .int (nI ((25 * i_4) + kz))), (6, .int (nI k))]) hx hb dX10_rows_121 hl (by decide) rfl (fun ls hl => ?_)
                      refine lv_aload_n hx hb dX10_rows_123 rfl (lv_at hl 1 rfl) ?_
                      refine va_get (D := (dC, dI)) (ci := 10) (v := .ref (h 27)) (C := RX10) (T := TX10) (N := 28) hx hb hts hinX10 hown hK hP 0 rfl rfl 27 (by decide) (hts (.fieldLink RX10 66 "MixedWordsModel" "items" "[I") (by decide +kernel)) (fun _ h9 => h9) rfl dX10_rows_124 ?_
                      refine lv_iload hx hb dX10_rows_127 (lv_at hl 6 rfl) ?_
                      refine lv_iload hx hb dX10_rows_129 (lv_at hl 7 rfl) ?_
                      refine lv_iadd hx hb dX10_rows_131 ?_
                      refine xt_i (y := nI (((25 * i_4) + kz) + k)) (nI_add _ _) ?_
                      refine xa_iald hx hb hK hP 16 0 rfl rfl (by omega) (by decide) dX10_rows_132 ?_
                      refine lv_i2l (v := (A 27 (((25 * i_4) + kz) + k)).toInt64) hx hb dX10_rows_133 rfl ?_
                      refine lv_iload hx hb dX10_rows_134 (lv_at hl 0 rfl) ?_
                      refine lv_ineg hx hb dX10_rows_136 ?_
                      refine lv_i2l (v := (-(nI 9)).toInt64) hx hb dX10_rows_137 rfl ?_
                      refine lv_iload hx hb dX10_rows_138 (lv_at hl 0 rfl) ?_
                      refine lv_i2l (v := (nI 9).toInt64) hx hb dX10_rows_140 rfl ?_
                      refine xj_i (wc := ([] : va_W)) (wr := (rW h cs I L A Q)) hP hD hS hA [] [0, 1, 2, 3, 4, 5, 6, 7, 8, 9, 10, 11, 12, 13, 14, 15, 16] rfl rfl (by decide +kernel) (by decide +kernel) (va_runS (As := [.long ((A 27 (((25 * i_4) + kz) + k)).toInt64), .long ((-(nI 9)).toInt64), .long ((nI 9).toInt64)]) (rest := []) ⟨hx, hb, hml, hown, hts⟩ (k_X10_in l dC dI h cs H.size I L A Q ((A 27 (((25 * i_4) + kz) + k)).toInt64) ((-(nI 9)).toInt64) ((nI 9).toInt64)) (va_cwS 3 hts gX10_rows_X10_in rfl rfl rfl (by decide +kernel) ⟨Nat.le_of_ble_eq_true rfl, Nat.le_of_ble_eq_true rfl⟩) (xpS (wc := ([] : va_W)) hP hD hK hN [] rfl (by decide) _) rfl rfl hl.1 rfl (lv_room (Nat.le_of_ble_eq_true rfl)) dX10_rows_141 ⟨Nat.zero_le _, Nat.zero_le _⟩) (fun r_34 u_33 H locs hw hP hD hS => ?_)
                      obtain ⟨hf_35, rfl⟩ := hw
                      have hP : va_P (dC, dI) vwCl (rW h cs I L A Q) H := hP
                      have hD : va_D A0 (rW h cs I L A Q) := hD
                      rcases in_Z (a := -9) (b := 9) neg9 rfl hf_35 with ⟨rfl, ha_37⟩ | ⟨rfl, hn_36⟩
                      · skip
                        have hokk : okv M k (A 27 (25 * i_4 + kz + k)) := by unfold okv; rw [if_neg (by assumption)]; exact ha_37
                        refine xs_neT (tgt := 150) hx hb dX10_rows_144 (by decide) (by decide) ?_
                        refine lv_iinc (v := nI (k + 1)) (lv' := [(6, .int (nI (k + 1))), (7, .int (nI 9)), (0, .ref (h 0)), (1, .int (nI i_4)), (2, .int (nI i_12)), (3, .int (nI kz)), (4, .int (nI (M + 1))), (5, .int (nI ((25 * i_4) + kz)))]) hx hb dX10_rows_150 hl (k := 7) rfl (nI_1 _) (by decide) rfl (fun ls hl => ?_)
                        refine lv_goto (tgt := 89) hx hb dX10_rows_153 (by decide) ?_
                        exact ih_89 (k + 1) (by omega) (by first | assumption | omega) (by first | exact (fun t ht => absurd ht (Nat.not_lt_zero t)) | exact ok_s hok_89 hokk) _ _ _ hP hD hS (lv_sub hl [2, 3, 4, 5, 6, 7, 0] rfl)
                      · skip
                        have hnok : ¬ okv M k (A 27 (25 * i_4 + kz + k)) := by unfold okv; rw [if_neg (by assumption)]; exact hn_36
                        refine xs_neF (tgt := 150) hx hb dX10_rows_144 (by decide) (by decide) ?_
                        refine lv_bipush (v := (-2)) hx hb dX10_rows_147 (by decide) ?_
                        exact xr_i (v := (-2)) hx hb hr hlocks hK hS dX10_rows_149 ((va_up (va_up I 4 (I 4)) 5 (I 5)), L, (va_up A 3 (A 3)), Q) ⟨(I 4), (I 5), (A 3), (Or.inr (Or.inl ⟨i_4, i_12, hi_5, hi_13, hx_6, hx_14, rfl, by first | assumption | (rw [← hx_14]; assumption), nz, kz, hnz, hze, hkz, hzk, ⟨k, by omega, hnok⟩, rfl, rfl, rfl⟩)), rfl⟩ hP hD
                    · skip
                      refine lv_sipush (v := nI 999) hx hb dX10_rows_113 (by decide) ?_
                      refine lv_goto (tgt := 121) hx hb dX10_rows_116 (by decide) ?_
                      refine lv_istore (lv' := [(7, .int (nI 999)), (0, .ref (h 0)), (1, .int (nI i_4)), (2, .int (nI i_12)), (3, .int (nI kz)), (4, .int (nI (M + 1))), (5, .int (nI ((25 * i_4) + kz))), (6, .int (nI k))]) hx hb dX10_rows_121 hl (by decide) rfl (fun ls hl => ?_)
                      refine lv_aload_n hx hb dX10_rows_123 rfl (lv_at hl 1 rfl) ?_
                      refine va_get (D := (dC, dI)) (ci := 10) (v := .ref (h 27)) (C := RX10) (T := TX10) (N := 28) hx hb hts hinX10 hown hK hP 0 rfl rfl 27 (by decide) (hts (.fieldLink RX10 66 "MixedWordsModel" "items" "[I") (by decide +kernel)) (fun _ h9 => h9) rfl dX10_rows_124 ?_
                      refine lv_iload hx hb dX10_rows_127 (lv_at hl 6 rfl) ?_
                      refine lv_iload hx hb dX10_rows_129 (lv_at hl 7 rfl) ?_
                      refine lv_iadd hx hb dX10_rows_131 ?_
                      refine xt_i (y := nI (((25 * i_4) + kz) + k)) (nI_add _ _) ?_
                      refine xa_iald hx hb hK hP 16 0 rfl rfl (by omega) (by decide) dX10_rows_132 ?_
                      refine lv_i2l (v := (A 27 (((25 * i_4) + kz) + k)).toInt64) hx hb dX10_rows_133 rfl ?_
                      refine lv_iload hx hb dX10_rows_134 (lv_at hl 0 rfl) ?_
                      refine lv_ineg hx hb dX10_rows_136 ?_
                      refine lv_i2l (v := (-(nI 999)).toInt64) hx hb dX10_rows_137 rfl ?_
                      refine lv_iload hx hb dX10_rows_138 (lv_at hl 0 rfl) ?_
                      refine lv_i2l (v := (nI 999).toInt64) hx hb dX10_rows_140 rfl ?_
                      refine xj_i (wc := ([] : va_W)) (wr := (rW h cs I L A Q)) hP hD hS hA [] [0, 1, 2, 3, 4, 5, 6, 7, 8, 9, 10, 11, 12, 13, 14, 15, 16] rfl rfl (by decide +kernel) (by decide +kernel) (va_runS (As := [.long ((A 27 (((25 * i_4) + kz) + k)).toInt64), .long ((-(nI 999)).toInt64), .long ((nI 999).toInt64)]) (rest := []) ⟨hx, hb, hml, hown, hts⟩ (k_X10_in l dC dI h cs H.size I L A Q ((A 27 (((25 * i_4) + kz) + k)).toInt64) ((-(nI 999)).toInt64) ((nI 999).toInt64)) (va_cwS 3 hts gX10_rows_X10_in rfl rfl rfl (by decide +kernel) ⟨Nat.le_of_ble_eq_true rfl, Nat.le_of_ble_eq_true rfl⟩) (xpS (wc := ([] : va_W)) hP hD hK hN [] rfl (by decide) _) rfl rfl hl.1 rfl (lv_room (Nat.le_of_ble_eq_true rfl)) dX10_rows_141 ⟨Nat.zero_le _, Nat.zero_le _⟩) (fun r_41 u_40 H locs hw hP hD hS => ?_)
                      obtain ⟨hf_42, rfl⟩ := hw
                      have hP : va_P (dC, dI) vwCl (rW h cs I L A Q) H := hP
                      have hD : va_D A0 (rW h cs I L A Q) := hD
                      rcases in_Z (a := -999) (b := 999) neg999 rfl hf_42 with ⟨rfl, ha_44⟩ | ⟨rfl, hn_43⟩
                      · skip
                        have hokk : okv M k (A 27 (25 * i_4 + kz + k)) := by unfold okv; rw [if_pos (by assumption)]; exact ha_44
                        refine xs_neT (tgt := 150) hx hb dX10_rows_144 (by decide) (by decide) ?_
                        refine lv_iinc (v := nI (k + 1)) (lv' := [(6, .int (nI (k + 1))), (7, .int (nI 999)), (0, .ref (h 0)), (1, .int (nI i_4)), (2, .int (nI i_12)), (3, .int (nI kz)), (4, .int (nI (M + 1))), (5, .int (nI ((25 * i_4) + kz)))]) hx hb dX10_rows_150 hl (k := 7) rfl (nI_1 _) (by decide) rfl (fun ls hl => ?_)
                        refine lv_goto (tgt := 89) hx hb dX10_rows_153 (by decide) ?_
                        exact ih_89 (k + 1) (by omega) (by first | assumption | omega) (by first | exact (fun t ht => absurd ht (Nat.not_lt_zero t)) | exact ok_s hok_89 hokk) _ _ _ hP hD hS (lv_sub hl [2, 3, 4, 5, 6, 7, 0] rfl)
                      · skip
                        have hnok : ¬ okv M k (A 27 (25 * i_4 + kz + k)) := by unfold okv; rw [if_pos (by assumption)]; exact hn_43
                        refine xs_neF (tgt := 150) hx hb dX10_rows_144 (by decide) (by decide) ?_
                        refine lv_bipush (v := (-2)) hx hb dX10_rows_147 (by decide) ?_
                        exact xr_i (v := (-2)) hx hb hr hlocks hK hS dX10_rows_149 ((va_up (va_up I 4 (I 4)) 5 (I 5)), L, (va_up A 3 (A 3)), Q) ⟨(I 4), (I 5), (A 3), (Or.inr (Or.inl ⟨i_4, i_12, hi_5, hi_13, hx_6, hx_14, rfl, by first | assumption | (rw [← hx_14]; assumption), nz, kz, hnz, hze, hkz, hzk, ⟨k, by omega, hnok⟩, rfl, rfl, rfl⟩)), rfl⟩ hP hD
              exact cut_89 _ 0 (Nat.lt_succ_self _) (by first | assumption | omega) (by first | exact (fun t ht => absurd ht (Nat.not_lt_zero t)) | exact ok_s hok_89 hokk) _ _ _ hP hD hS (lv_sub hl [3, 4, 5, 6, 2, 1, 0] rfl)
            · skip
              refine lv_bipush (v := (-13)) hx hb dX10_rows_75 (by decide) ?_
              exact xr_i (v := (-13)) hx hb hr hlocks hK hS dX10_rows_77 ((va_up (va_up I 4 (I 4)) 5 (I 5)), L, (va_up A 3 (A 3)), Q) ⟨(I 4), (I 5), (A 3), (Or.inr (Or.inr (Or.inl ⟨i_4, i_12, hi_5, hi_13, hx_6, hx_14, rfl, by first | assumption | (rw [← hx_14]; assumption), nz, hnz, hze, (fun k hk e9 => by first | exact rows_no hRM hnz hze (by assumption) k hk e9 | (exact nI_pos (n := k) (by omega) (by rw [← e9]; assumption))), rfl, rfl, rfl⟩))), rfl⟩ hP hD
        · skip
          refine lv_bipush (v := (-12)) hx hb dX10_rows_38 (by decide) ?_
          exact xr_i (v := (-12)) hx hb hr hlocks hK hS dX10_rows_40 ((va_up (va_up I 4 (I 4)) 5 (I 5)), L, (va_up A 3 (A 3)), Q) ⟨(I 4), (I 5), (A 3), (Or.inr (Or.inr (Or.inr (Or.inl ⟨i_4, i_12, hi_5, hi_13, hx_6, hx_14, rfl, by assumption, by assumption, rfl, rfl, rfl⟩)))), rfl⟩ hP hD
      · skip
        refine lv_bipush (v := (-11)) hx hb dX10_rows_25 (by decide) ?_
        exact xr_i (v := (-11)) hx hb hr hlocks hK hS dX10_rows_27 ((va_up (va_up I 4 (I 4)) 5 (I 5)), L, (va_up A 3 (A 3)), Q) ⟨(I 4), (I 5), (A 3), (Or.inr (Or.inr (Or.inr (Or.inr (Or.inl ⟨i_4, i_12, hi_5, hi_13, hx_6, hx_14, rfl, Int32.not_le.mp (by assumption), rfl, rfl, rfl⟩))))), rfl⟩ hP hD
    · skip
      refine xs_neF (tgt := 16) hx hb dX10_rows_11 (by decide) (by decide) ?_
      refine lv_iconst (v := (-1)) hx hb dX10_rows_14 (by decide) ?_
      exact xr_i (v := (-1)) hx hb hr hlocks hK hS dX10_rows_15 ((va_up (va_up I 4 (I 4)) 5 (I 5)), L, (va_up A 3 (A 3)), Q) ⟨(I 4), (I 5), (A 3), (Or.inr (Or.inr (Or.inr (Or.inr (Or.inr ⟨rfl, fun i j a b c d => hn_15 j b d, rfl, rfl, rfl⟩))))), rfl⟩ hP hD
  · skip
    refine xs_eqT (tgt := 14) hx hb dX10_rows_4 (by decide) (by decide) ?_
    refine lv_iconst (v := (-1)) hx hb dX10_rows_14 (by decide) ?_
    exact xr_i (v := (-1)) hx hb hr hlocks hK hS dX10_rows_15 ((va_up (va_up I 4 (I 4)) 5 (I 5)), L, (va_up A 3 (A 3)), Q) ⟨(I 4), (I 5), (A 3), (Or.inr (Or.inr (Or.inr (Or.inr (Or.inr ⟨rfl, fun i j a b c d => hn_7 i a c, rfl, rfl, rfl⟩))))), rfl⟩ hP hD
