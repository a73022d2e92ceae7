
theorem rg_yes {x : Int32} {n : Nat} (hn : n < 2147483648) (h0 : ¬ x < 0) (h : ¬ nI n ≤ x) : ∃ i : Nat, i < n ∧ x = nI i := by
  rcases pk_ix x hn with g | g | g
  · exact absurd g h0
  · exact absurd g h
  · exact g
theorem rg_no1 {x : Int32} {n : Nat} (hn : n < 2147483648) (h0 : x < 0) : ∀ i : Nat, i < n → x ≠ nI i := fun i hi e => nI_pos (show i < 2 ^ 31 by omega) (e ▸ h0)
theorem rg_no2 {x : Int32} {n : Nat} (hn : n < 2147483648) (h : nI n ≤ x) : ∀ i : Nat, i < n → x ≠ nI i := fun i hi e => nI_ge hi hn (e ▸ h)

def atF (he : Nat → Int32) (g : Nat → Nat → Int32) (M i j : Nat) : Int32 := if j = M then he i else g i j
def putP (M i j : Nat) (v : Int32) (he : Nat → Int32) (g : Nat → Nat → Int32) (he2 : Nat → Int32) (g2 : Nat → Nat → Int32) : Prop := (j = M ∧ he2 = upd he i v ∧ g2 = g) ∨ (j < M ∧ he2 = he ∧ g2 = va_up g i (upd (g i) j v))

theorem wc_eq {a M : Nat} (ha : a = 2 ∨ a = 4) (hM : M ≤ 4) : nI 1 <<< (nI (a / 2 * M) &&& 31) = nI (a ^ M) := by
  have : M = 0 ∨ M = 1 ∨ M = 2 ∨ M = 3 ∨ M = 4 := by omega
  rcases ha with rfl | rfl <;> rcases this with rfl | rfl | rfl | rfl | rfl <;> decide
theorem bdX3_hasRow_0 : (decode cX3_hasRow 0 = .ok (.iload_n 1, 1)) ∧ (decode cX3_hasRow 1 = .ok (.ifCond .lt 15, 3)) ∧ (decode cX3_hasRow 4 = .ok (.iload_n 1, 1)) ∧ (decode cX3_hasRow 5 = .ok (.aload_n 0, 1)) ∧ (decode cX3_hasRow 6 = .ok (.getfield 9, 3)) ∧ (decode cX3_hasRow 9 = .ok (.if_icmp .ge 7, 3)) ∧ (decode cX3_hasRow 12 = .ok (.iconst 1, 1)) ∧ (decode cX3_hasRow 13 = .ok (.goto 4, 3)) ∧ (decode cX3_hasRow 16 = .ok (.iconst 0, 1)) ∧ (decode cX3_hasRow 17 = .ok (.ireturn, 1)) := by decide +kernel
theorem dX3_hasRow_0 : decode cX3_hasRow 0 = .ok (.iload_n 1, 1) := bdX3_hasRow_0.1
theorem dX3_hasRow_1 : decode cX3_hasRow 1 = .ok (.ifCond .lt 15, 3) := bdX3_hasRow_0.2.1
theorem dX3_hasRow_4 : decode cX3_hasRow 4 = .ok (.iload_n 1, 1) := bdX3_hasRow_0.2.2.1
theorem dX3_hasRow_5 : decode cX3_hasRow 5 = .ok (.aload_n 0, 1) := bdX3_hasRow_0.2.2.2.1
theorem dX3_hasRow_6 : decode cX3_hasRow 6 = .ok (.getfield 9, 3) := bdX3_hasRow_0.2.2.2.2.1
theorem dX3_hasRow_9 : decode cX3_hasRow 9 = .ok (.if_icmp .ge 7, 3) := bdX3_hasRow_0.2.2.2.2.2.1
theorem dX3_hasRow_12 : decode cX3_hasRow 12 = .ok (.iconst 1, 1) := bdX3_hasRow_0.2.2.2.2.2.2.1
theorem dX3_hasRow_13 : decode cX3_hasRow 13 = .ok (.goto 4, 3) := bdX3_hasRow_0.2.2.2.2.2.2.2.1
theorem dX3_hasRow_16 : decode cX3_hasRow 16 = .ok (.iconst 0, 1) := bdX3_hasRow_0.2.2.2.2.2.2.2.2.1
theorem dX3_hasRow_17 : decode cX3_hasRow 17 = .ok (.ireturn, 1) := bdX3_hasRow_0.2.2.2.2.2.2.2.2.2
set_option maxHeartbeats 4000000 in
set_option maxRecDepth 100000 in
theorem k_X3_hasRow (l : Launch) (dC : Nat → ClassId) (dI : Nat → Nat → Nat) (h : Nat → Nat) (cs : Nat → ClassId) (sz : Nat) (I : Nat → Int32) (L : Nat → Int64) (A : Nat → Nat → Int32) (Q : Nat → Nat → Int64) (G : Nat → Nat → Nat → Int32) (J : Nat → Nat → Nat → Int64) (x : Int32) (R : Nat) (hR : I 120 = nI R) (hR1 : 1 ≤ R) (hR5 : R ≤ 5) : Met l yX3_hasRow wsX3_hasRow ({ frames := 0, cells := 0, slots := 0, locals := 0 }) (va_Pc [.ref (h 101), .int x] (xPre (dC, dI) (wMix h cs I L A Q G J) (tysA cs) sz)) (va_Qi (fun (r : Int32) (u : CS) => ((r = nI 1 ∧ ∃ i : Nat, i < R ∧ x = nI i) ∨ (r = nI 0 ∧ ∀ i : Nat, i < R → x ≠ nI i)) ∧ u = (I, L, A, Q, G, J)) (xB (dC, dI) (tysA cs) (va_A (wMix h cs I L A Q G J) sz) (fun u : CS => wMix h cs u.1 u.2.1 u.2.2.1 u.2.2.2.1 u.2.2.2.2.1 u.2.2.2.2.2)) (va_A (wMix h cs I L A Q G J) sz)) 0 0 (va_A (wMix h cs I L A Q G J) sz) := by
  refine Met.ofW (cc := cX3_hasRow) (maxL := 2) (ret := (some .boolean)) (by decide) rfl ?_
  intro p e s m args below meth c s₁ B hml hv
  obtain ⟨rfl, hsz, hP, hK, hD0, hN⟩ := hv
  have hx := B.exec
  have hb := B.bytes
  have hr := B.returns
  have hts := atoms_spec (ws := wsX3_hasRow) B.pre
  have hown : s.vm.findClass RX3 = some m.cls := findClass_of_methodNamed B.named
  have hlocks := B.notSynchronized
  subst hsz
  have hD := hD0.self (sz := s.heap.size)
  generalize hAe : va_A (wMix h cs I L A Q G J) s.heap.size = A0 at hD ⊢
  have hA : ∀ q : Nat, s.heap.size ≤ q → A0 q := fun q h => by rw [← hAe]; exact Or.inr h
  have hl := lv_entry ([.ref (h 101), .int x]) (n := 2) (Nat.le_of_ble_eq_true rfl)
  rw [lg_entry_eq]
  generalize (lg_sl ([.ref (h 101), .int x]) ++ List.replicate (2 - (lg_sl ([.ref (h 101), .int x])).length) Slot.unset).toArray = ls at hl ⊢
  have hl : lv_has ls 2 [(0, .ref (h 101)), (1, .int x)] := hl
  generalize hH : s.heap = H at hP ⊢
  have hS : va_S A0 s.heap H [] := by rw [← hH]; exact va_S.rf
  have hinX3 : ∀ w ∈ wsX30, w ∈ wsX3_hasRow := by decide +kernel
  refine lv_iload_n hx hb dX3_hasRow_0 rfl (lv_at hl 1 rfl) ?_
  refine lv_if_lt (tgt := 16) hx hb dX3_hasRow_1 (by decide) (fun c_1_0 => ?_) (fun c_1_0 => ?_)
  · skip
    refine lv_iconst (v := nI 0) hx hb dX3_hasRow_16 (by decide) ?_
    exact xr_z (v := (nI 0)) hx hb hr hlocks hK hS dX3_hasRow_17 (rfl) (I, L, A, Q, G, J) ⟨(Or.inr ⟨rfl, by first | exact rg_no1 (by omega) (by assumption) | exact rg_no2 (by omega) (by assumption)⟩), rfl⟩ hP hD
  · skip
    refine lv_iload_n hx hb dX3_hasRow_4 rfl (lv_at hl 1 rfl) ?_
    refine lv_aload_n hx hb dX3_hasRow_5 rfl (lv_at hl 0 rfl) ?_
    refine va_get (D := (dC, dI)) (ci := 3) (v := .int (I 120)) (C := RX3) (T := TX3) (N := 6) hx hb hts hinX3 hown hK hP 0 rfl rfl 0 (by decide) (hts (.fieldLink RX3 9 "MixedWords$Mix" "height" "I") (by decide +kernel)) (fun _ h9 => h9) rfl dX3_hasRow_6 ?_
    refine xt_i (y := nI R) (hR) ?_
    refine lv_icmp_ge (tgt := 16) hx hb dX3_hasRow_9 (by decide) (fun c_9_1 => ?_) (fun c_9_1 => ?_)
    · skip
      refine lv_iconst (v := nI 0) hx hb dX3_hasRow_16 (by decide) ?_
      exact xr_z (v := (nI 0)) hx hb hr hlocks hK hS dX3_hasRow_17 (rfl) (I, L, A, Q, G, J) ⟨(Or.inr ⟨rfl, by first | exact rg_no1 (by omega) (by assumption) | exact rg_no2 (by omega) (by assumption)⟩), rfl⟩ hP hD
    · skip
      refine lv_iconst (v := nI 1) hx hb dX3_hasRow_12 (by decide) ?_
      refine lv_goto (tgt := 17) hx hb dX3_hasRow_13 (by decide) ?_
      exact xr_z (v := (nI 1)) hx hb hr hlocks hK hS dX3_hasRow_17 (rfl) (I, L, A, Q, G, J) ⟨(Or.inl ⟨rfl, rg_yes (by omega) (by assumption) (by assumption)⟩), rfl⟩ hP hD
theorem bdX3_hasColumn_0 : (decode cX3_hasColumn 0 = .ok (.iload_n 1, 1)) ∧ (decode cX3_hasColumn 1 = .ok (.ifCond .lt 15, 3)) ∧ (decode cX3_hasColumn 4 = .ok (.iload_n 1, 1)) ∧ (decode cX3_hasColumn 5 = .ok (.aload_n 0, 1)) ∧ (decode cX3_hasColumn 6 = .ok (.getfield 15, 3)) ∧ (decode cX3_hasColumn 9 = .ok (.if_icmp .ge 7, 3)) ∧ (decode cX3_hasColumn 12 = .ok (.iconst 1, 1)) ∧ (decode cX3_hasColumn 13 = .ok (.goto 4, 3)) ∧ (decode cX3_hasColumn 16 = .ok (.iconst 0, 1)) ∧ (decode cX3_hasColumn 17 = .ok (.ireturn, 1)) := by decide +kernel
theorem dX3_hasColumn_0 : decode cX3_hasColumn 0 = .ok (.iload_n 1, 1) := bdX3_hasColumn_0.1
theorem dX3_hasColumn_1 : decode cX3_hasColumn 1 = .ok (.ifCond .lt 15, 3) := bdX3_hasColumn_0.2.1
theorem dX3_hasColumn_4 : decode cX3_hasColumn 4 = .ok (.iload_n 1, 1) := bdX3_hasColumn_0.2.2.1
theorem dX3_hasColumn_5 : decode cX3_hasColumn 5 = .ok (.aload_n 0, 1) := bdX3_hasColumn_0.2.2.2.1
theorem dX3_hasColumn_6 : decode cX3_hasColumn 6 = .ok (.getfield 15, 3) := bdX3_hasColumn_0.2.2.2.2.1
theorem dX3_hasColumn_9 : decode cX3_hasColumn 9 = .ok (.if_icmp .ge 7, 3) := bdX3_hasColumn_0.2.2.2.2.2.1
theorem dX3_hasColumn_12 : decode cX3_hasColumn 12 = .ok (.iconst 1, 1) := bdX3_hasColumn_0.2.2.2.2.2.2.1
theorem dX3_hasColumn_13 : decode cX3_hasColumn 13 = .ok (.goto 4, 3) := bdX3_hasColumn_0.2.2.2.2.2.2.2.1
theorem dX3_hasColumn_16 : decode cX3_hasColumn 16 = .ok (.iconst 0, 1) := bdX3_hasColumn_0.2.2.2.2.2.2.2.2.1
theorem dX3_hasColumn_17 : decode cX3_hasColumn 17 = .ok (.ireturn, 1) := bdX3_hasColumn_0.2.2.2.2.2.2.2.2.2
set_option maxHeartbeats 4000000 in
set_option maxRecDepth 100000 in
theorem k_X3_hasColumn (l : Launch) (dC : Nat → ClassId) (dI : Nat → Nat → Nat) (h : Nat → Nat) (cs : Nat → ClassId) (sz : Nat) (I : Nat → Int32) (L : Nat → Int64) (A : Nat → Nat → Int32) (Q : Nat → Nat → Int64) (G : Nat → Nat → Nat → Int32) (J : Nat → Nat → Nat → Int64) (x : Int32) (M : Nat) (hM : I 121 = nI M) (hM1 : 1 ≤ M) (hM4 : M ≤ 4) : Met l yX3_hasColumn wsX3_hasColumn ({ frames := 0, cells := 0, slots := 0, locals := 0 }) (va_Pc [.ref (h 101), .int x] (xPre (dC, dI) (wMix h cs I L A Q G J) (tysA cs) sz)) (va_Qi (fun (r : Int32) (u : CS) => ((r = nI 1 ∧ ∃ i : Nat, i < M ∧ x = nI i) ∨ (r = nI 0 ∧ ∀ i : Nat, i < M → x ≠ nI i)) ∧ u = (I, L, A, Q, G, J)) (xB (dC, dI) (tysA cs) (va_A (wMix h cs I L A Q G J) sz) (fun u : CS => wMix h cs u.1 u.2.1 u.2.2.1 u.2.2.2.1 u.2.2.2.2.1 u.2.2.2.2.2)) (va_A (wMix h cs I L A Q G J) sz)) 0 0 (va_A (wMix h cs I L A Q G J) sz) := by
  refine Met.ofW (cc := cX3_hasColumn) (maxL := 2) (ret := (some .boolean)) (by decide) rfl ?_
  intro p e s m args below meth c s₁ B hml hv
  obtain ⟨rfl, hsz, hP, hK, hD0, hN⟩ := hv
  have hx := B.exec
  have hb := B.bytes
  have hr := B.returns
  have hts := atoms_spec (ws := wsX3_hasColumn) B.pre
  have hown : s.vm.findClass RX3 = some m.cls := findClass_of_methodNamed B.named
  have hlocks := B.notSynchronized
  subst hsz
  have hD := hD0.self (sz := s.heap.size)
  generalize hAe : va_A (wMix h cs I L A Q G J) s.heap.size = A0 at hD ⊢
  have hA : ∀ q : Nat, s.heap.size ≤ q → A0 q := fun q h => by rw [← hAe]; exact Or.inr h
  have hl := lv_entry ([.ref (h 101), .int x]) (n := 2) (Nat.le_of_ble_eq_true rfl)
  rw [lg_entry_eq]
  generalize (lg_sl ([.ref (h 101), .int x]) ++ List.replicate (2 - (lg_sl ([.ref (h 101), .int x])).length) Slot.unset).toArray = ls at hl ⊢
  have hl : lv_has ls 2 [(0, .ref (h 101)), (1, .int x)] := hl
  generalize hH : s.heap = H at hP ⊢
  have hS : va_S A0 s.heap H [] := by rw [← hH]; exact va_S.rf
  have hinX3 : ∀ w ∈ wsX30, w ∈ wsX3_hasColumn := by decide +kernel
  refine lv_iload_n hx hb dX3_hasColumn_0 rfl (lv_at hl 1 rfl) ?_
  refine lv_if_lt (tgt := 16) hx hb dX3_hasColumn_1 (by decide) (fun c_1_0 => ?_) (fun c_1_0 => ?_)
  · skip
    refine lv_iconst (v := nI 0) hx hb dX3_hasColumn_16 (by decide) ?_
    exact xr_z (v := (nI 0)) hx hb hr hlocks hK hS dX3_hasColumn_17 (rfl) (I, L, A, Q, G, J) ⟨(Or.inr ⟨rfl, by first | exact rg_no1 (by omega) (by assumption) | exact rg_no2 (by omega) (by assumption)⟩), rfl⟩ hP hD
  · skip
    refine lv_iload_n hx hb dX3_hasColumn_4 rfl (lv_at hl 1 rfl) ?_
    refine lv_aload_n hx hb dX3_hasColumn_5 rfl (lv_at hl 0 rfl) ?_
    refine va_get (D := (dC, dI)) (ci := 3) (v := .int (I 121)) (C := RX3) (T := TX3) (N := 6) hx hb hts hinX3 hown hK hP 0 rfl rfl 1 (by decide) (hts (.fieldLink RX3 15 "MixedWords$Mix" "width" "I") (by decide +kernel)) (fun _ h9 => h9) rfl dX3_hasColumn_6 ?_
    refine xt_i (y := nI M) (hM) ?_
    refine lv_icmp_ge (tgt := 16) hx hb dX3_hasColumn_9 (by decide) (fun c_9_1 => ?_) (fun c_9_1 => ?_)
    · skip
      refine lv_iconst (v := nI 0) hx hb dX3_hasColumn_16 (by decide) ?_
      exact xr_z (v := (nI 0)) hx hb hr hlocks hK hS dX3_hasColumn_17 (rfl) (I, L, A, Q, G, J) ⟨(Or.inr ⟨rfl, by first | exact rg_no1 (by omega) (by assumption) | exact rg_no2 (by omega) (by assumption)⟩), rfl⟩ hP hD
    · skip
      refine lv_iconst (v := nI 1) hx hb dX3_hasColumn_12 (by decide) ?_
      refine lv_goto (tgt := 17) hx hb dX3_hasColumn_13 (by decide) ?_
      exact xr_z (v := (nI 1)) hx hb hr hlocks hK hS dX3_hasColumn_17 (rfl) (I, L, A, Q, G, J) ⟨(Or.inl ⟨rfl, rg_yes (by omega) (by assumption) (by assumption)⟩), rfl⟩ hP hD
theorem bdX3_bitsOfLetter_0 : (decode cX3_bitsOfLetter 0 = .ok (.aload_n 0, 1)) ∧ (decode cX3_bitsOfLetter 1 = .ok (.getfield 18, 3)) ∧ (decode cX3_bitsOfLetter 4 = .ok (.iconst 4, 1)) ∧ (decode cX3_bitsOfLetter 5 = .ok (.if_icmp .ne 7, 3)) ∧ (decode cX3_bitsOfLetter 8 = .ok (.iconst 2, 1)) ∧ (decode cX3_bitsOfLetter 9 = .ok (.goto 4, 3)) ∧ (decode cX3_bitsOfLetter 12 = .ok (.iconst 1, 1)) ∧ (decode cX3_bitsOfLetter 13 = .ok (.ireturn, 1)) := by decide +kernel
theorem dX3_bitsOfLetter_0 : decode cX3_bitsOfLetter 0 = .ok (.aload_n 0, 1) := bdX3_bitsOfLetter_0.1
theorem dX3_bitsOfLetter_1 : decode cX3_bitsOfLetter 1 = .ok (.getfield 18, 3) := bdX3_bitsOfLetter_0.2.1
theorem dX3_bitsOfLetter_4 : decode cX3_bitsOfLetter 4 = .ok (.iconst 4, 1) := bdX3_bitsOfLetter_0.2.2.1
theorem dX3_bitsOfLetter_5 : decode cX3_bitsOfLetter 5 = .ok (.if_icmp .ne 7, 3) := bdX3_bitsOfLetter_0.2.2.2.1
theorem dX3_bitsOfLetter_8 : decode cX3_bitsOfLetter 8 = .ok (.iconst 2, 1) := bdX3_bitsOfLetter_0.2.2.2.2.1
theorem dX3_bitsOfLetter_9 : decode cX3_bitsOfLetter 9 = .ok (.goto 4, 3) := bdX3_bitsOfLetter_0.2.2.2.2.2.1
theorem dX3_bitsOfLetter_12 : decode cX3_bitsOfLetter 12 = .ok (.iconst 1, 1) := bdX3_bitsOfLetter_0.2.2.2.2.2.2.1
theorem dX3_bitsOfLetter_13 : decode cX3_bitsOfLetter 13 = .ok (.ireturn, 1) := bdX3_bitsOfLetter_0.2.2.2.2.2.2.2
set_option maxHeartbeats 4000000 in
set_option maxRecDepth 100000 in
theorem k_X3_bitsOfLetter (l : Launch) (dC : Nat → ClassId) (dI : Nat → Nat → Nat) (h : Nat → Nat) (cs : Nat → ClassId) (sz : Nat) (I : Nat → Int32) (L : Nat → Int64) (A : Nat → Nat → Int32) (Q : Nat → Nat → Int64) (G : Nat → Nat → Nat → Int32) (J : Nat → Nat → Nat → Int64) (a : Nat) (ha : I 122 = nI a) (ha2 : a = 2 ∨ a = 4) : Met l yX3_bitsOfLetter wsX3_bitsOfLetter ({ frames := 0, cells := 0, slots := 0, locals := 0 }) (va_Pc [.ref (h 101)] (xPre (dC, dI) (wMix h cs I L A Q G J) (tysA cs) sz)) (va_Qi (fun (r : Int32) (u : CS) => (r = nI (a / 2)) ∧ u = (I, L, A, Q, G, J)) (xB (dC, dI) (tysA cs) (va_A (wMix h cs I L A Q G J) sz) (fun u : CS => wMix h cs u.1 u.2.1 u.2.2.1 u.2.2.2.1 u.2.2.2.2.1 u.2.2.2.2.2)) (va_A (wMix h cs I L A Q G J) sz)) 0 0 (va_A (wMix h cs I L A Q G J) sz) := by
  refine Met.ofW (cc := cX3_bitsOfLetter) (maxL := 1) (ret := (some .int)) (by decide) rfl ?_
  intro p e s m args below meth c s₁ B hml hv
  obtain ⟨rfl, hsz, hP, hK, hD0, hN⟩ := hv
  have hx := B.exec
  have hb := B.bytes
  have hr := B.returns
  have hts := atoms_spec (ws := wsX3_bitsOfLetter) B.pre
  have hown : s.vm.findClass RX3 = some m.cls := findClass_of_methodNamed B.named
  have hlocks := B.notSynchronized
  subst hsz
  have hD := hD0.self (sz := s.heap.size)
  generalize hAe : va_A (wMix h cs I L A Q G J) s.heap.size = A0 at hD ⊢
  have hA : ∀ q : Nat, s.heap.size ≤ q → A0 q := fun q h => by rw [← hAe]; exact Or.inr h
  have hl := lv_entry ([.ref (h 101)]) (n := 1) (Nat.le_of_ble_eq_true rfl)
  rw [lg_entry_eq]
  generalize (lg_sl ([.ref (h 101)]) ++ List.replicate (1 - (lg_sl ([.ref (h 101)])).length) Slot.unset).toArray = ls at hl ⊢
  have hl : lv_has ls 1 [(0, .ref (h 101))] := hl
  generalize hH : s.heap = H at hP ⊢
  have hS : va_S A0 s.heap H [] := by rw [← hH]; exact va_S.rf
  have hinX3 : ∀ w ∈ wsX30, w ∈ wsX3_bitsOfLetter := by decide +kernel
  refine lv_aload_n hx hb dX3_bitsOfLetter_0 rfl (lv_at hl 0 rfl) ?_
  refine va_get (D := (dC, dI)) (ci := 3) (v := .int (I 122)) (C := RX3) (T := TX3) (N := 6) hx hb hts hinX3 hown hK hP 0 rfl rfl 2 (by decide) (hts (.fieldLink RX3 18 "MixedWords$Mix" "letterCount" "I") (by decide +kernel)) (fun _ h9 => h9) rfl dX3_bitsOfLetter_1 ?_
  refine xt_i (y := nI a) (ha) ?_
  refine lv_iconst (v := nI 4) hx hb dX3_bitsOfLetter_4 (by decide) ?_
  refine xn_ne (tgt := 12) hx hb dX3_bitsOfLetter_5 (by decide) (by omega) (by omega) (fun c_5_0 => ?_) (fun c_5_0 => ?_)
  · skip
    refine lv_iconst (v := nI 1) hx hb dX3_bitsOfLetter_12 (by decide) ?_
    exact xr_i (v := (nI 1)) hx hb hr hlocks hK hS dX3_bitsOfLetter_13 (I, L, A, Q, G, J) ⟨(by first | (rw [show a / 2 = 2 by omega]) | (rw [show a / 2 = 1 by omega])), rfl⟩ hP hD
  · skip
    refine lv_iconst (v := nI 2) hx hb dX3_bitsOfLetter_8 (by decide) ?_
    refine lv_goto (tgt := 13) hx hb dX3_bitsOfLetter_9 (by decide) ?_
    exact xr_i (v := (nI 2)) hx hb hr hlocks hK hS dX3_bitsOfLetter_13 (I, L, A, Q, G, J) ⟨(by first | (rw [show a / 2 = 2 by omega]) | (rw [show a / 2 = 1 by omega])), rfl⟩ hP hD
set_option maxRecDepth 20000 in
theorem ggX3_wordCount_X3_bitsOfLetter : GoodIn wsX3_wordCount wsX3_bitsOfLetter := goodIn_r _ [6, 7, 8, 9, 10, 11, 12, 13] rfl (by decide +kernel)
set_option maxRecDepth 20000 in
theorem gX3_wordCount_X3_bitsOfLetter : GoodIn wsX3_wordCount (wsV RX3 33 RX3 yX3_bitsOfLetter wsX3_bitsOfLetter) := goodIn_app (goodIn_of _ (by decide +kernel)) ggX3_wordCount_X3_bitsOfLetter
theorem bdX3_wordCount_0 : (decode cX3_wordCount 0 = .ok (.iconst 1, 1)) ∧ (decode cX3_wordCount 1 = .ok (.aload_n 0, 1)) ∧ (decode cX3_wordCount 2 = .ok (.invokevirtual 33, 3)) ∧ (decode cX3_wordCount 5 = .ok (.aload_n 0, 1)) ∧ (decode cX3_wordCount 6 = .ok (.getfield 15, 3)) ∧ (decode cX3_wordCount 9 = .ok (.imul, 1)) ∧ (decode cX3_wordCount 10 = .ok (.ishl, 1)) ∧ (decode cX3_wordCount 11 = .ok (.ireturn, 1)) := by decide +kernel
theorem dX3_wordCount_0 : decode cX3_wordCount 0 = .ok (.iconst 1, 1) := bdX3_wordCount_0.1
theorem dX3_wordCount_1 : decode cX3_wordCount 1 = .ok (.aload_n 0, 1) := bdX3_wordCount_0.2.1
theorem dX3_wordCount_2 : decode cX3_wordCount 2 = .ok (.invokevirtual 33, 3) := bdX3_wordCount_0.2.2.1
theorem dX3_wordCount_5 : decode cX3_wordCount 5 = .ok (.aload_n 0, 1) := bdX3_wordCount_0.2.2.2.1
theorem dX3_wordCount_6 : decode cX3_wordCount 6 = .ok (.getfield 15, 3) := bdX3_wordCount_0.2.2.2.2.1
theorem dX3_wordCount_9 : decode cX3_wordCount 9 = .ok (.imul, 1) := bdX3_wordCount_0.2.2.2.2.2.1
theorem dX3_wordCount_10 : decode cX3_wordCount 10 = .ok (.ishl, 1) := bdX3_wordCount_0.2.2.2.2.2.2.1
theorem dX3_wordCount_11 : decode cX3_wordCount 11 = .ok (.ireturn, 1) := bdX3_wordCount_0.2.2.2.2.2.2.2
set_option maxHeartbeats 4000000 in
set_option maxRecDepth 100000 in
theorem k_X3_wordCount (l : Launch) (dC : Nat → ClassId) (dI : Nat → Nat → Nat) (h : Nat → Nat) (cs : Nat → ClassId) (sz : Nat) (I : Nat → Int32) (L : Nat → Int64) (A : Nat → Nat → Int32) (Q : Nat → Nat → Int64) (G : Nat → Nat → Nat → Int32) (J : Nat → Nat → Nat → Int64) (M a : Nat) (hM : I 121 = nI M) (hM1 : 1 ≤ M) (hM4 : M ≤ 4) (ha : I 122 = nI a) (ha2 : a = 2 ∨ a = 4) : Met l yX3_wordCount wsX3_wordCount ({ frames := 1, cells := 0, slots := 0, locals := 20 }) (va_Pc [.ref (h 101)] (xPre (dC, dI) (wMix h cs I L A Q G J) (tysA cs) sz)) (va_Qi (fun (r : Int32) (u : CS) => (r = nI (a ^ M)) ∧ u = (I, L, A, Q, G, J)) (xB (dC, dI) (tysA cs) (va_A (wMix h cs I L A Q G J) sz) (fun u : CS => wMix h cs u.1 u.2.1 u.2.2.1 u.2.2.2.1 u.2.2.2.2.1 u.2.2.2.2.2)) (va_A (wMix h cs I L A Q G J) sz)) 0 0 (va_A (wMix h cs I L A Q G J) sz) := by
  refine Met.ofW (cc := cX3_wordCount) (maxL := 1) (ret := (some .int)) (by decide) rfl ?_
  intro p e s m args below meth c s₁ B hml hv
  obtain ⟨rfl, hsz, hP, hK, hD0, hN⟩ := hv
  have hx := B.exec
  have hb := B.bytes
  have hr := B.returns
  have hts := atoms_spec (ws := wsX3_wordCount) B.pre
  have hown : s.vm.findClass RX3 = some m.cls := findClass_of_methodNamed B.named
  have hlocks := B.notSynchronized
  subst hsz
  have hD := hD0.self (sz := s.heap.size)
  generalize hAe : va_A (wMix h cs I L A Q G J) s.heap.size = A0 at hD ⊢
  have hA : ∀ q : Nat, s.heap.size ≤ q → A0 q := fun q h => by rw [← hAe]; exact Or.inr h
  have hl := lv_entry ([.ref (h 101)]) (n := 1) (Nat.le_of_ble_eq_true rfl)
  rw [lg_entry_eq]
  generalize (lg_sl ([.ref (h 101)]) ++ List.replicate (1 - (lg_sl ([.ref (h 101)])).length) Slot.unset).toArray = ls at hl ⊢
  have hl : lv_has ls 1 [(0, .ref (h 101))] := hl
  generalize hH : s.heap = H at hP ⊢
  have hS : va_S A0 s.heap H [] := by rw [← hH]; exact va_S.rf
  have hinX3 : ∀ w ∈ wsX30, w ∈ wsX3_wordCount := by decide +kernel
  refine lv_iconst (v := nI 1) hx hb dX3_wordCount_0 (by decide) ?_
  refine lv_aload_n hx hb dX3_wordCount_1 rfl (lv_at hl 0 rfl) ?_
  refine xj_i (wc := (wMix h cs I L A Q G J)) (wr := ([] : va_W)) hP hD hS hA [0, 1, 2, 3, 4, 5, 6, 7] [] rfl rfl (by decide +kernel) (by decide +kernel) (va_runV (As := []) (rest := [.int (nI 1)]) ⟨hx, hb, hml, hown, hts⟩ (k_X3_bitsOfLetter l dC dI h cs H.size I L A Q G J a ha (by first | assumption | omega | exact ha2)) (cwV 0 hts gX3_wordCount_X3_bitsOfLetter rfl rfl rfl (by decide +kernel) ⟨Nat.le_of_ble_eq_true rfl, Nat.le_of_ble_eq_true rfl⟩) (xpV (wc := (wMix h cs I L A Q G J)) hP hD hK hN [0, 1, 2, 3, 4, 5, 6, 7] rfl (by decide) 0 (ci := 3) rfl rfl _) rfl rfl hl.1 rfl (lv_room (Nat.le_of_ble_eq_true rfl)) dX3_wordCount_2 ⟨Nat.zero_le _, Nat.zero_le _⟩) (fun r_2 u_1 H locs hw hP hD hS => ?_)
  obtain ⟨hf_3, rfl⟩ := hw
  have hP : va_P (dC, dI) vwCl (wMix h cs I L A Q G J) H := hP
  have hD : va_D A0 (wMix h cs I L A Q G J) := hD
  obtain rfl := hf_3
  refine lv_aload_n hx hb dX3_wordCount_5 rfl (lv_at hl 0 rfl) ?_
  refine va_get (D := (dC, dI)) (ci := 3) (v := .int (I 121)) (C := RX3) (T := TX3) (N := 6) hx hb hts hinX3 hown hK hP 0 rfl rfl 1 (by decide) (hts (.fieldLink RX3 15 "MixedWords$Mix" "width" "I") (by decide +kernel)) (fun _ h9 => h9) rfl dX3_wordCount_6 ?_
  refine xt_i (y := nI M) (hM) ?_
  refine lv_imul hx hb dX3_wordCount_9 ?_
  refine xt_i (y := nI ((a / 2) * M)) (pk_mul _ _) ?_
  refine lv_ishl hx hb dX3_wordCount_10 ?_
  refine xt_i (y := nI (a ^ M)) (wc_eq ha2 hM4) ?_
  exact xr_i (v := (nI (a ^ M))) hx hb hr hlocks hK hS dX3_wordCount_11 (I, L, A, Q, G, J) ⟨rfl, rfl⟩ hP hD
theorem bdX3_follow_0 : (decode cX3_follow 0 = .ok (.iload_n 1, 1)) ∧ (decode cX3_follow 1 = .ok (.aload_n 0, 1)) ∧ (decode cX3_follow 2 = .ok (.getfield 18, 3)) ∧ (decode cX3_follow 5 = .ok (.imul, 1)) ∧ (decode cX3_follow 6 = .ok (.iload_n 2, 1)) ∧ (decode cX3_follow 7 = .ok (.iadd, 1)) ∧ (decode cX3_follow 8 = .ok (.ireturn, 1)) := by decide +kernel
theorem dX3_follow_0 : decode cX3_follow 0 = .ok (.iload_n 1, 1) := bdX3_follow_0.1
theorem dX3_follow_1 : decode cX3_follow 1 = .ok (.aload_n 0, 1) := bdX3_follow_0.2.1
theorem dX3_follow_2 : decode cX3_follow 2 = .ok (.getfield 18, 3) := bdX3_follow_0.2.2.1
theorem dX3_follow_5 : decode cX3_follow 5 = .ok (.imul, 1) := bdX3_follow_0.2.2.2.1
theorem dX3_follow_6 : decode cX3_follow 6 = .ok (.iload_n 2, 1) := bdX3_follow_0.2.2.2.2.1
theorem dX3_follow_7 : decode cX3_follow 7 = .ok (.iadd, 1) := bdX3_follow_0.2.2.2.2.2.1
theorem dX3_follow_8 : decode cX3_follow 8 = .ok (.ireturn, 1) := bdX3_follow_0.2.2.2.2.2.2
set_option maxHeartbeats 4000000 in
set_option maxRecDepth 100000 in
theorem k_X3_follow (l : Launch) (dC : Nat → ClassId) (dI : Nat → Nat → Nat) (h : Nat → Nat) (cs : Nat → ClassId) (sz : Nat) (I : Nat → Int32) (L : Nat → Int64) (A : Nat → Nat → Int32) (Q : Nat → Nat → Int64) (G : Nat → Nat → Nat → Int32) (J : Nat → Nat → Nat → Int64) (x y : Int32) (a : Nat) (ha : I 122 = nI a) (ha2 : a = 2 ∨ a = 4) : Met l yX3_follow wsX3_follow ({ frames := 0, cells := 0, slots := 0, locals := 0 }) (va_Pc [.ref (h 101), .int x, .int y] (xPre (dC, dI) (wMix h cs I L A Q G J) (tysA cs) sz)) (va_Qi (fun (r : Int32) (u : CS) => (r = x * nI a + y) ∧ u = (I, L, A, Q, G, J)) (xB (dC, dI) (tysA cs) (va_A (wMix h cs I L A Q G J) sz) (fun u : CS => wMix h cs u.1 u.2.1 u.2.2.1 u.2.2.2.1 u.2.2.2.2.1 u.2.2.2.2.2)) (va_A (wMix h cs I L A Q G J) sz)) 0 0 (va_A (wMix h cs I L A Q G J) sz) := by
  refine Met.ofW (cc := cX3_follow) (maxL := 3) (ret := (some .int)) (by decide) rfl ?_
  intro p e s m args below meth c s₁ B hml hv
  obtain ⟨rfl, hsz, hP, hK, hD0, hN⟩ := hv
  have hx := B.exec
  have hb := B.bytes
  have hr := B.returns
  have hts := atoms_spec (ws := wsX3_follow) B.pre
  have hown : s.vm.findClass RX3 = some m.cls := findClass_of_methodNamed B.named
  have hlocks := B.notSynchronized
  subst hsz
  have hD := hD0.self (sz := s.heap.size)
  generalize hAe : va_A (wMix h cs I L A Q G J) s.heap.size = A0 at hD ⊢
  have hA : ∀ q : Nat, s.heap.size ≤ q → A0 q := fun q h => by rw [← hAe]; exact Or.inr h
  have hl := lv_entry ([.ref (h 101), .int x, .int y]) (n := 3) (Nat.le_of_ble_eq_true rfl)
  rw [lg_entry_eq]
  generalize (lg_sl ([.ref (h 101), .int x, .int y]) ++ List.replicate (3 - (lg_sl ([.ref (h 101), .int x, .int y])).length) Slot.unset).toArray = ls at hl ⊢
  have hl : lv_has ls 3 [(0, .ref (h 101)), (1, .int x), (2, .int y)] := hl
  generalize hH : s.heap = H at hP ⊢
  have hS : va_S A0 s.heap H [] := by rw [← hH]; exact va_S.rf
  have hinX3 : ∀ w ∈ wsX30, w ∈ wsX3_follow := by decide +kernel
  refine lv_iload_n hx hb dX3_follow_0 rfl (lv_at hl 1 rfl) ?_
  refine lv_aload_n hx hb dX3_follow_1 rfl (lv_at hl 0 rfl) ?_
  refine va_get (D := (dC, dI)) (ci := 3) (v := .int (I 122)) (C := RX3) (T := TX3) (N := 6) hx hb hts hinX3 hown hK hP 0 rfl rfl 2 (by decide) (hts (.fieldLink RX3 18 "MixedWords$Mix" "letterCount" "I") (by decide +kernel)) (fun _ h9 => h9) rfl dX3_follow_2 ?_
  refine xt_i (y := nI a) (ha) ?_
  refine lv_imul hx hb dX3_follow_5 ?_
  refine lv_iload_n hx hb dX3_follow_6 rfl (lv_at hl 2 rfl) ?_
  refine lv_iadd hx hb dX3_follow_7 ?_
  exact xr_i (v := ((x * (nI a)) + y)) hx hb hr hlocks hK hS dX3_follow_8 (I, L, A, Q, G, J) ⟨rfl, rfl⟩ hP hD
theorem bdX3_choose_0 : (decode cX3_choose 0 = .ok (.aload_n 0, 1)) ∧ (decode cX3_choose 1 = .ok (.iload_n 1, 1)) ∧ (decode cX3_choose 2 = .ok (.putfield 18, 3)) ∧ (decode cX3_choose 5 = .ok (.aload_n 0, 1)) ∧ (decode cX3_choose 6 = .ok (.dup, 1)) ∧ (decode cX3_choose 7 = .ok (.getfield 21, 3)) ∧ (decode cX3_choose 10 = .ok (.iconst 1, 1)) ∧ (decode cX3_choose 11 = .ok (.iadd, 1)) ∧ (decode cX3_choose 12 = .ok (.putfield 21, 3)) ∧ (decode cX3_choose 15 = .ok (.return_, 1)) := by decide +kernel
theorem dX3_choose_0 : decode cX3_choose 0 = .ok (.aload_n 0, 1) := bdX3_choose_0.1
theorem dX3_choose_1 : decode cX3_choose 1 = .ok (.iload_n 1, 1) := bdX3_choose_0.2.1
theorem dX3_choose_2 : decode cX3_choose 2 = .ok (.putfield 18, 3) := bdX3_choose_0.2.2.1
theorem dX3_choose_5 : decode cX3_choose 5 = .ok (.aload_n 0, 1) := bdX3_choose_0.2.2.2.1
theorem dX3_choose_6 : decode cX3_choose 6 = .ok (.dup, 1) := bdX3_choose_0.2.2.2.2.1
theorem dX3_choose_7 : decode cX3_choose 7 = .ok (.getfield 21, 3) := bdX3_choose_0.2.2.2.2.2.1
theorem dX3_choose_10 : decode cX3_choose 10 = .ok (.iconst 1, 1) := bdX3_choose_0.2.2.2.2.2.2.1
theorem dX3_choose_11 : decode cX3_choose 11 = .ok (.iadd, 1) := bdX3_choose_0.2.2.2.2.2.2.2.1
theorem dX3_choose_12 : decode cX3_choose 12 = .ok (.putfield 21, 3) := bdX3_choose_0.2.2.2.2.2.2.2.2.1
theorem dX3_choose_15 : decode cX3_choose 15 = .ok (.return_, 1) := bdX3_choose_0.2.2.2.2.2.2.2.2.2
set_option maxHeartbeats 4000000 in
set_option maxRecDepth 100000 in
theorem k_X3_choose (l : Launch) (dC : Nat → ClassId) (dI : Nat → Nat → Nat) (h : Nat → Nat) (cs : Nat → ClassId) (sz : Nat) (I : Nat → Int32) (L : Nat → Int64) (A : Nat → Nat → Int32) (Q : Nat → Nat → Int64) (G : Nat → Nat → Nat → Int32) (J : Nat → Nat → Nat → Int64) (x : Int32) (sp9 : Nat) (hst : I 123 = nI sp9) (hst2 : sp9 < 1000000000) : Met l yX3_choose wsX3_choose ({ frames := 0, cells := 0, slots := 0, locals := 0 }) (va_Pc [.ref (h 101), .int x] (xPre (dC, dI) (wMix h cs I L A Q G J) (tysA cs) sz)) (va_Qv (fun (u : CS) => ∃ x122 : Int32, ∃ x123 : Int32, (x = x122 ∧ x123 = nI (sp9 + 1)) ∧ u = ((va_up (va_up I 122 x122) 123 x123), L, A, Q, G, J)) (xB (dC, dI) (tysA cs) (va_A (wMix h cs I L A Q G J) sz) (fun u : CS => wMix h cs u.1 u.2.1 u.2.2.1 u.2.2.2.1 u.2.2.2.2.1 u.2.2.2.2.2)) (va_A (wMix h cs I L A Q G J) sz)) 0 0 (va_A (wMix h cs I L A Q G J) sz) := by
  refine Met.ofW (cc := cX3_choose) (maxL := 2) (ret := none) (by decide) rfl ?_
  intro p e s m args below meth c s₁ B hml hv
  obtain ⟨rfl, hsz, hP, hK, hD0, hN⟩ := hv
  have hx := B.exec
  have hb := B.bytes
  have hr := B.returns
  have hts := atoms_spec (ws := wsX3_choose) B.pre
  have hown : s.vm.findClass RX3 = some m.cls := findClass_of_methodNamed B.named
  have hlocks := B.notSynchronized
  subst hsz
  have hD := hD0.self (sz := s.heap.size)
  generalize hAe : va_A (wMix h cs I L A Q G J) s.heap.size = A0 at hD ⊢
  have hA : ∀ q : Nat, s.heap.size ≤ q → A0 q := fun q h => by rw [← hAe]; exact Or.inr h
  have hl := lv_entry ([.ref (h 101), .int x]) (n := 2) (Nat.le_of_ble_eq_true rfl)
  rw [lg_entry_eq]
  generalize (lg_sl ([.ref (h 101), .int x]) ++ List.replicate (2 - (lg_sl ([.ref (h 101), .int x])).length) Slot.unset).toArray = ls at hl ⊢
  have hl : lv_has ls 2 [(0, .ref (h 101)), (1, .int x)] := hl
  generalize hH : s.heap = H at hP ⊢
  have hS : va_S A0 s.heap H [] := by rw [← hH]; exact va_S.rf
  have hinX3 : ∀ w ∈ wsX30, w ∈ wsX3_choose := by decide +kernel
  refine lv_aload_n hx hb dX3_choose_0 rfl (lv_at hl 0 rfl) ?_
  refine lv_iload_n hx hb dX3_choose_1 rfl (lv_at hl 1 rfl) ?_
  refine va_put (D := (dC, dI)) (ci := 3) (v := .int x) (ty := .int) (C := RX3) (T := TX3) (N := 6) hx hb hts hinX3 tyX3 tyX3_ok nmX3 hown hK hP hD hS 0 rfl rfl 2 (by decide) (hts (.fieldLink RX3 18 "MixedWords$Mix" "letterCount" "I") (by decide +kernel)) (fun _ h9 => h9) rfl (by decide +kernel) rfl rfl (Nat.le_of_ble_eq_true rfl) dX3_choose_2 (fun H locs hP hD hS => ?_)
  have hP : va_P (dC, dI) vwCl (wMix h cs (va_up I 122 x) L A Q G J) H := hP
  have hD : va_D A0 (wMix h cs (va_up I 122 x) L A Q G J) := hD
  refine lv_aload_n hx hb dX3_choose_5 rfl (lv_at hl 0 rfl) ?_
  refine lv_dup hx hb dX3_choose_6 rfl ?_
  refine va_get (D := (dC, dI)) (ci := 3) (v := .int (I 123)) (C := RX3) (T := TX3) (N := 6) hx hb hts hinX3 hown hK hP 0 rfl rfl 3 (by decide) (hts (.fieldLink RX3 21 "MixedWords$Mix" "stamp" "I") (by decide +kernel)) (fun _ h9 => h9) rfl dX3_choose_7 ?_
  refine xt_i (y := nI sp9) (hst) ?_
  refine lv_iconst (v := nI 1) hx hb dX3_choose_10 (by decide) ?_
  refine lv_iadd hx hb dX3_choose_11 ?_
  refine xt_i (y := nI (sp9 + 1)) (nI_add _ _) ?_
  refine va_put (D := (dC, dI)) (ci := 3) (v := .int (nI (sp9 + 1))) (ty := .int) (C := RX3) (T := TX3) (N := 6) hx hb hts hinX3 tyX3 tyX3_ok nmX3 hown hK hP hD hS 0 rfl rfl 3 (by decide) (hts (.fieldLink RX3 21 "MixedWords$Mix" "stamp" "I") (by decide +kernel)) (fun _ h9 => h9) rfl (by decide +kernel) rfl rfl (Nat.le_of_ble_eq_true rfl) dX3_choose_12 (fun H locs hP hD hS => ?_)
  have hP : va_P (dC, dI) vwCl (wMix h cs (va_up (va_up I 122 x) 123 (nI (sp9 + 1))) L A Q G J) H := hP
  have hD : va_D A0 (wMix h cs (va_up (va_up I 122 x) 123 (nI (sp9 + 1))) L A Q G J) := hD
  exact xr_v hx hb hr hlocks hK hS dX3_choose_15 ((va_up (va_up I 122 x) 123 (nI (sp9 + 1))), L, A, Q, G, J) ⟨x, (nI (sp9 + 1)), ⟨rfl, rfl⟩, rfl⟩ hP hD
theorem bdX3_at_0 : (decode cX3_at 0 = .ok (.iload_n 2, 1)) ∧ (decode cX3_at 1 = .ok (.aload_n 0, 1)) ∧ (decode cX3_at 2 = .ok (.getfield 15, 3)) ∧ (decode cX3_at 5 = .ok (.if_icmp .ne 12, 3)) ∧ (decode cX3_at 8 = .ok (.aload_n 0, 1)) ∧ (decode cX3_at 9 = .ok (.getfield 29, 3)) ∧ (decode cX3_at 12 = .ok (.iload_n 1, 1)) ∧ (decode cX3_at 13 = .ok (.iaload, 1)) ∧ (decode cX3_at 14 = .ok (.goto 11, 3)) ∧ (decode cX3_at 17 = .ok (.aload_n 0, 1)) ∧ (decode cX3_at 18 = .ok (.getfield 26, 3)) ∧ (decode cX3_at 21 = .ok (.iload_n 1, 1)) ∧ (decode cX3_at 22 = .ok (.aaload, 1)) ∧ (decode cX3_at 23 = .ok (.iload_n 2, 1)) ∧ (decode cX3_at 24 = .ok (.iaload, 1)) ∧ (decode cX3_at 25 = .ok (.ireturn, 1)) := by decide +kernel
theorem dX3_at_0 : decode cX3_at 0 = .ok (.iload_n 2, 1) := bdX3_at_0.1
theorem dX3_at_1 : decode cX3_at 1 = .ok (.aload_n 0, 1) := bdX3_at_0.2.1
theorem dX3_at_2 : decode cX3_at 2 = .ok (.getfield 15, 3) := bdX3_at_0.2.2.1
theorem dX3_at_5 : decode cX3_at 5 = .ok (.if_icmp .ne 12, 3) := bdX3_at_0.2.2.2.1
theorem dX3_at_8 : decode cX3_at 8 = .ok (.aload_n 0, 1) := bdX3_at_0.2.2.2.2.1
theorem dX3_at_9 : decode cX3_at 9 = .ok (.getfield 29, 3) := bdX3_at_0.2.2.2.2.2.1
theorem dX3_at_12 : decode cX3_at 12 = .ok (.iload_n 1, 1) := bdX3_at_0.2.2.2.2.2.2.1
theorem dX3_at_13 : decode cX3_at 13 = .ok (.iaload, 1) := bdX3_at_0.2.2.2.2.2.2.2.1
theorem dX3_at_14 : decode cX3_at 14 = .ok (.goto 11, 3) := bdX3_at_0.2.2.2.2.2.2.2.2.1
theorem dX3_at_17 : decode cX3_at 17 = .ok (.aload_n 0, 1) := bdX3_at_0.2.2.2.2.2.2.2.2.2.1
theorem dX3_at_18 : decode cX3_at 18 = .ok (.getfield 26, 3) := bdX3_at_0.2.2.2.2.2.2.2.2.2.2.1
theorem dX3_at_21 : decode cX3_at 21 = .ok (.iload_n 1, 1) := bdX3_at_0.2.2.2.2.2.2.2.2.2.2.2.1
theorem dX3_at_22 : decode cX3_at 22 = .ok (.aaload, 1) := bdX3_at_0.2.2.2.2.2.2.2.2.2.2.2.2.1
theorem dX3_at_23 : decode cX3_at 23 = .ok (.iload_n 2, 1) := bdX3_at_0.2.2.2.2.2.2.2.2.2.2.2.2.2.1
theorem dX3_at_24 : decode cX3_at 24 = .ok (.iaload, 1) := bdX3_at_0.2.2.2.2.2.2.2.2.2.2.2.2.2.2.1
theorem dX3_at_25 : decode cX3_at 25 = .ok (.ireturn, 1) := bdX3_at_0.2.2.2.2.2.2.2.2.2.2.2.2.2.2.2
set_option maxHeartbeats 4000000 in
set_option maxRecDepth 100000 in
theorem k_X3_at (l : Launch) (dC : Nat → ClassId) (dI : Nat → Nat → Nat) (h : Nat → Nat) (cs : Nat → ClassId) (sz : Nat) (I : Nat → Int32) (L : Nat → Int64) (A : Nat → Nat → Int32) (Q : Nat → Nat → Int64) (G : Nat → Nat → Nat → Int32) (J : Nat → Nat → Nat → Int64) (i j M : Nat) (hi : i < 5) (hj : j ≤ M) (hM : I 121 = nI M) (hM1 : 1 ≤ M) (hM4 : M ≤ 4) : Met l yX3_at wsX3_at ({ frames := 0, cells := 0, slots := 0, locals := 0 }) (va_Pc [.ref (h 101), .int (nI i), .int (nI j)] (xPre (dC, dI) (wMix h cs I L A Q G J) (tysA cs) sz)) (va_Qi (fun (r : Int32) (u : CS) => (r = atF (A 136) (G 0) M i j) ∧ u = (I, L, A, Q, G, J)) (xB (dC, dI) (tysA cs) (va_A (wMix h cs I L A Q G J) sz) (fun u : CS => wMix h cs u.1 u.2.1 u.2.2.1 u.2.2.2.1 u.2.2.2.2.1 u.2.2.2.2.2)) (va_A (wMix h cs I L A Q G J) sz)) 0 0 (va_A (wMix h cs I L A Q G J) sz) := by
  refine Met.ofW (cc := cX3_at) (maxL := 3) (ret := (some .int)) (by decide) rfl ?_
  intro p e s m args below meth c s₁ B hml hv
  obtain ⟨rfl, hsz, hP, hK, hD0, hN⟩ := hv
  have hx := B.exec
  have hb := B.bytes
  have hr := B.returns
  have hts := atoms_spec (ws := wsX3_at) B.pre
  have hown : s.vm.findClass RX3 = some m.cls := findClass_of_methodNamed B.named
  have hlocks := B.notSynchronized
  subst hsz
  have hD := hD0.self (sz := s.heap.size)
  generalize hAe : va_A (wMix h cs I L A Q G J) s.heap.size = A0 at hD ⊢
  have hA : ∀ q : Nat, s.heap.size ≤ q → A0 q := fun q h => by rw [← hAe]; exact Or.inr h
  have hl := lv_entry ([.ref (h 101), .int (nI i), .int (nI j)]) (n := 3) (Nat.le_of_ble_eq_true rfl)
  rw [lg_entry_eq]
  generalize (lg_sl ([.ref (h 101), .int (nI i), .int (nI j)]) ++ List.replicate (3 - (lg_sl ([.ref (h 101), .int (nI i), .int (nI j)])).length) Slot.unset).toArray = ls at hl ⊢
  have hl : lv_has ls 3 [(0, .ref (h 101)), (1, .int (nI i)), (2, .int (nI j))] := hl
  generalize hH : s.heap = H at hP ⊢
  have hS : va_S A0 s.heap H [] := by rw [← hH]; exact va_S.rf
  have hinX3 : ∀ w ∈ wsX30, w ∈ wsX3_at := by decide +kernel
  refine lv_iload_n hx hb dX3_at_0 rfl (lv_at hl 2 rfl) ?_
  refine lv_aload_n hx hb dX3_at_1 rfl (lv_at hl 0 rfl) ?_
  refine va_get (D := (dC, dI)) (ci := 3) (v := .int (I 121)) (C := RX3) (T := TX3) (N := 6) hx hb hts hinX3 hown hK hP 0 rfl rfl 1 (by decide) (hts (.fieldLink RX3 15 "MixedWords$Mix" "width" "I") (by decide +kernel)) (fun _ h9 => h9) rfl dX3_at_2 ?_
  refine xt_i (y := nI M) (hM) ?_
  refine xn_ne (tgt := 17) hx hb dX3_at_5 (by decide) (by omega) (by omega) (fun c_5_0 => ?_) (fun c_5_0 => ?_)
  · skip
    refine lv_aload_n hx hb dX3_at_17 rfl (lv_at hl 0 rfl) ?_
    refine va_get (D := (dC, dI)) (ci := 3) (v := .ref (h 130)) (C := RX3) (T := TX3) (N := 6) hx hb hts hinX3 hown hK hP 0 rfl rfl 4 (by decide) (hts (.fieldLink RX3 26 "MixedWords$Mix" "cells" "[[I") (by decide +kernel)) (fun _ h9 => h9) rfl dX3_at_18 ?_
    refine lv_iload_n hx hb dX3_at_21 rfl (lv_at hl 1 rfl) ?_
    refine xa_aald (b := h (i + 131)) hx hb hK hP 1 3 rfl rfl rfl (by omega) (by decide) (if_pos (by omega)) dX3_at_22 ?_
    refine lv_iload_n hx hb dX3_at_23 rfl (lv_at hl 2 rfl) ?_
    refine xa_iald hx hb hK hP (2 + i) 0 (wMix_atG0 (by omega)) rfl (by omega) (by decide) dX3_at_24 ?_
    exact xr_i (v := (((G 0) i) j)) hx hb hr hlocks hK hS dX3_at_25 (I, L, A, Q, G, J) ⟨(by unfold atF; first | rw [if_pos (by assumption)] | rw [if_neg (by assumption)]), rfl⟩ hP hD
  · skip
    refine lv_aload_n hx hb dX3_at_8 rfl (lv_at hl 0 rfl) ?_
    refine va_get (D := (dC, dI)) (ci := 3) (v := .ref (h 136)) (C := RX3) (T := TX3) (N := 6) hx hb hts hinX3 hown hK hP 0 rfl rfl 5 (by decide) (hts (.fieldLink RX3 29 "MixedWords$Mix" "heard" "[I") (by decide +kernel)) (fun _ h9 => h9) rfl dX3_at_9 ?_
    refine lv_iload_n hx hb dX3_at_12 rfl (lv_at hl 1 rfl) ?_
    refine xa_iald hx hb hK hP 7 0 rfl rfl (by omega) (by decide) dX3_at_13 ?_
    refine lv_goto (tgt := 25) hx hb dX3_at_14 (by decide) ?_
    exact xr_i (v := (A 136 i)) hx hb hr hlocks hK hS dX3_at_25 (I, L, A, Q, G, J) ⟨(by unfold atF; first | rw [if_pos (by assumption)] | rw [if_neg (by assumption)]), rfl⟩ hP hD
theorem bdX3_put_0 : (decode cX3_put 0 = .ok (.iload_n 2, 1)) ∧ (decode cX3_put 1 = .ok (.aload_n 0, 1)) ∧ (decode cX3_put 2 = .ok (.getfield 15, 3)) ∧ (decode cX3_put 5 = .ok (.if_icmp .ne 13, 3)) ∧ (decode cX3_put 8 = .ok (.aload_n 0, 1)) ∧ (decode cX3_put 9 = .ok (.getfield 29, 3)) ∧ (decode cX3_put 12 = .ok (.iload_n 1, 1)) ∧ (decode cX3_put 13 = .ok (.iload_n 3, 1)) ∧ (decode cX3_put 14 = .ok (.iastore, 1)) ∧ (decode cX3_put 15 = .ok (.goto 12, 3)) ∧ (decode cX3_put 18 = .ok (.aload_n 0, 1)) ∧ (decode cX3_put 19 = .ok (.getfield 26, 3)) ∧ (decode cX3_put 22 = .ok (.iload_n 1, 1)) ∧ (decode cX3_put 23 = .ok (.aaload, 1)) ∧ (decode cX3_put 24 = .ok (.iload_n 2, 1)) ∧ (decode cX3_put 25 = .ok (.iload_n 3, 1)) := by decide +kernel
theorem dX3_put_0 : decode cX3_put 0 = .ok (.iload_n 2, 1) := bdX3_put_0.1
theorem dX3_put_1 : decode cX3_put 1 = .ok (.aload_n 0, 1) := bdX3_put_0.2.1
theorem dX3_put_2 : decode cX3_put 2 = .ok (.getfield 15, 3) := bdX3_put_0.2.2.1
theorem dX3_put_5 : decode cX3_put 5 = .ok (.if_icmp .ne 13, 3) := bdX3_put_0.2.2.2.1
theorem dX3_put_8 : decode cX3_put 8 = .ok (.aload_n 0, 1) := bdX3_put_0.2.2.2.2.1
theorem dX3_put_9 : decode cX3_put 9 = .ok (.getfield 29, 3) := bdX3_put_0.2.2.2.2.2.1
theorem dX3_put_12 : decode cX3_put 12 = .ok (.iload_n 1, 1) := bdX3_put_0.2.2.2.2.2.2.1
theorem dX3_put_13 : decode cX3_put 13 = .ok (.iload_n 3, 1) := bdX3_put_0.2.2.2.2.2.2.2.1
theorem dX3_put_14 : decode cX3_put 14 = .ok (.iastore, 1) := bdX3_put_0.2.2.2.2.2.2.2.2.1
theorem dX3_put_15 : decode cX3_put 15 = .ok (.goto 12, 3) := bdX3_put_0.2.2.2.2.2.2.2.2.2.1
theorem dX3_put_18 : decode cX3_put 18 = .ok (.aload_n 0, 1) := bdX3_put_0.2.2.2.2.2.2.2.2.2.2.1
theorem dX3_put_19 : decode cX3_put 19 = .ok (.getfield 26, 3) := bdX3_put_0.2.2.2.2.2.2.2.2.2.2.2.1
theorem dX3_put_22 : decode cX3_put 22 = .ok (.iload_n 1, 1) := bdX3_put_0.2.2.2.2.2.2.2.2.2.2.2.2.1
theorem dX3_put_23 : decode cX3_put 23 = .ok (.aaload, 1) := bdX3_put_0.2.2.2.2.2.2.2.2.2.2.2.2.2.1
theorem dX3_put_24 : decode cX3_put 24 = .ok (.iload_n 2, 1) := bdX3_put_0.2.2.2.2.2.2.2.2.2.2.2.2.2.2.1
theorem dX3_put_25 : decode cX3_put 25 = .ok (.iload_n 3, 1) := bdX3_put_0.2.2.2.2.2.2.2.2.2.2.2.2.2.2.2
theorem bdX3_put_26 : (decode cX3_put 26 = .ok (.iastore, 1)) ∧ (decode cX3_put 27 = .ok (.aload_n 0, 1)) ∧ (decode cX3_put 28 = .ok (.dup, 1)) ∧ (decode cX3_put 29 = .ok (.getfield 21, 3)) ∧ (decode cX3_put 32 = .ok (.iconst 1, 1)) ∧ (decode cX3_put 33 = .ok (.iadd, 1)) ∧ (decode cX3_put 34 = .ok (.putfield 21, 3)) ∧ (decode cX3_put 37 = .ok (.return_, 1)) := by decide +kernel
theorem dX3_put_26 : decode cX3_put 26 = .ok (.iastore, 1) := bdX3_put_26.1
theorem dX3_put_27 : decode cX3_put 27 = .ok (.aload_n 0, 1) := bdX3_put_26.2.1
theorem dX3_put_28 : decode cX3_put 28 = .ok (.dup, 1) := bdX3_put_26.2.2.1
theorem dX3_put_29 : decode cX3_put 29 = .ok (.getfield 21, 3) := bdX3_put_26.2.2.2.1
theorem dX3_put_32 : decode cX3_put 32 = .ok (.iconst 1, 1) := bdX3_put_26.2.2.2.2.1
theorem dX3_put_33 : decode cX3_put 33 = .ok (.iadd, 1) := bdX3_put_26.2.2.2.2.2.1
theorem dX3_put_34 : decode cX3_put 34 = .ok (.putfield 21, 3) := bdX3_put_26.2.2.2.2.2.2.1
theorem dX3_put_37 : decode cX3_put 37 = .ok (.return_, 1) := bdX3_put_26.2.2.2.2.2.2.2
set_option maxHeartbeats 4000000 in
set_option maxRecDepth 100000 in
theorem k_X3_put (l : Launch) (dC : Nat → ClassId) (dI : Nat → Nat → Nat) (h : Nat → Nat) (cs : Nat → ClassId) (sz : Nat) (I : Nat → Int32) (L : Nat → Int64) (A : Nat → Nat → Int32) (Q : Nat → Nat → Int64) (G : Nat → Nat → Nat → Int32) (J : Nat → Nat → Nat → Int64) (i j : Nat) (v : Int32) (M sp9 : Nat) (hi : i < 5) (hj : j ≤ M) (hM : I 121 = nI M) (hM1 : 1 ≤ M) (hM4 : M ≤ 4) (hst : I 123 = nI sp9) (hst2 : sp9 < 1000000000) : Met l yX3_put wsX3_put ({ frames := 0, cells := 0, slots := 0, locals := 0 }) (va_Pc [.ref (h 101), .int (nI i), .int (nI j), .int v] (xPre (dC, dI) (wMix h cs I L A Q G J) (tysA cs) sz)) (va_Qv (fun (u : CS) => ∃ x123 : Int32, ∃ f136 : Nat → Int32, ∃ g0 : Nat → Nat → Int32, (x123 = nI (sp9 + 1) ∧ putP M i j v (A 136) (G 0) f136 g0) ∧ u = ((va_up I 123 x123), L, (va_up A 136 f136), Q, (va_up G 0 g0), J)) (xB (dC, dI) (tysA cs) (va_A (wMix h cs I L A Q G J) sz) (fun u : CS => wMix h cs u.1 u.2.1 u.2.2.1 u.2.2.2.1 u.2.2.2.2.1 u.2.2.2.2.2)) (va_A (wMix h cs I L A Q G J) sz)) 0 0 (va_A (wMix h cs I L A Q G J) sz) := by
  refine Met.ofW (cc := cX3_put) (maxL := 4) (ret := none) (by decide) rfl ?_
  intro p e s m args below meth c s₁ B hml hv
  obtain ⟨rfl, hsz, hP, hK, hD0, hN⟩ := hv
  have hx := B.exec
  have hb := B.bytes
  have hr := B.returns
  have hts := atoms_spec (ws := wsX3_put) B.pre
  have hown : s.vm.findClass RX3 = some m.cls := findClass_of_methodNamed B.named
  have hlocks := B.notSynchronized
  subst hsz
  have hD := hD0.self (sz := s.heap.size)
  generalize hAe : va_A (wMix h cs I L A Q G J) s.heap.size = A0 at hD ⊢
  have hA : ∀ q : Nat, s.heap.size ≤ q → A0 q := fun q h => by rw [← hAe]; exact Or.inr h
  have hl := lv_entry ([.ref (h 101), .int (nI i), .int (nI j), .int v]) (n := 4) (Nat.le_of_ble_eq_true rfl)
  rw [lg_entry_eq]
  generalize (lg_sl ([.ref (h 101), .int (nI i), .int (nI j), .int v]) ++ List.replicate (4 - (lg_sl ([.ref (h 101), .int (nI i), .int (nI j), .int v])).length) Slot.unset).toArray = ls at hl ⊢
  have hl : lv_has ls 4 [(0, .ref (h 101)), (1, .int (nI i)), (2, .int (nI j)), (3, .int v)] := hl
  generalize hH : s.heap = H at hP ⊢
  have hS : va_S A0 s.heap H [] := by rw [← hH]; exact va_S.rf
  have hinX3 : ∀ w ∈ wsX30, w ∈ wsX3_put := by decide +kernel
  refine lv_iload_n hx hb dX3_put_0 rfl (lv_at hl 2 rfl) ?_
  refine lv_aload_n hx hb dX3_put_1 rfl (lv_at hl 0 rfl) ?_
  refine va_get (D := (dC, dI)) (ci := 3) (v := .int (I 121)) (C := RX3) (T := TX3) (N := 6) hx hb hts hinX3 hown hK hP 0 rfl rfl 1 (by decide) (hts (.fieldLink RX3 15 "MixedWords$Mix" "width" "I") (by decide +kernel)) (fun _ h9 => h9) rfl dX3_put_2 ?_
  refine xt_i (y := nI M) (hM) ?_
  refine xn_ne (tgt := 18) hx hb dX3_put_5 (by decide) (by omega) (by omega) (fun c_5_0 => ?_) (fun c_5_0 => ?_)
  · skip
    refine lv_aload_n hx hb dX3_put_18 rfl (lv_at hl 0 rfl) ?_
    refine va_get (D := (dC, dI)) (ci := 3) (v := .ref (h 130)) (C := RX3) (T := TX3) (N := 6) hx hb hts hinX3 hown hK hP 0 rfl rfl 4 (by decide) (hts (.fieldLink RX3 26 "MixedWords$Mix" "cells" "[[I") (by decide +kernel)) (fun _ h9 => h9) rfl dX3_put_19 ?_
    refine lv_iload_n hx hb dX3_put_22 rfl (lv_at hl 1 rfl) ?_
    refine xa_aald (b := h (i + 131)) hx hb hK hP 1 3 rfl rfl rfl (by omega) (by decide) (if_pos (by omega)) dX3_put_23 ?_
    refine lv_iload_n hx hb dX3_put_24 rfl (lv_at hl 2 rfl) ?_
    refine lv_iload_n hx hb dX3_put_25 rfl (lv_at hl 3 rfl) ?_
    refine xa_iast hx hb hK hP hD hS (2 + i) 0 (wMix_atG0 (by omega)) rfl (by omega) (by decide) dX3_put_26 (fun H locs hP hD hS => ?_)
    rw [wMix_setG0 (by omega)] at hP hD
    have hP : va_P (dC, dI) vwCl (wMix h cs I L A Q (va_up G 0 (va_up (G 0) i (upd ((G 0) i) j v))) J) H := hP
    have hD : va_D A0 (wMix h cs I L A Q (va_up G 0 (va_up (G 0) i (upd ((G 0) i) j v))) J) := hD
    refine lv_aload_n hx hb dX3_put_27 rfl (lv_at hl 0 rfl) ?_
    refine lv_dup hx hb dX3_put_28 rfl ?_
    refine va_get (D := (dC, dI)) (ci := 3) (v := .int (I 123)) (C := RX3) (T := TX3) (N := 6) hx hb hts hinX3 hown hK hP 0 rfl rfl 3 (by decide) (hts (.fieldLink RX3 21 "MixedWords$Mix" "stamp" "I") (by decide +kernel)) (fun _ h9 => h9) rfl dX3_put_29 ?_
    refine xt_i (y := nI sp9) (hst) ?_
    refine lv_iconst (v := nI 1) hx hb dX3_put_32 (by decide) ?_
    refine lv_iadd hx hb dX3_put_33 ?_
    refine xt_i (y := nI (sp9 + 1)) (nI_add _ _) ?_
    refine va_put (D := (dC, dI)) (ci := 3) (v := .int (nI (sp9 + 1))) (ty := .int) (C := RX3) (T := TX3) (N := 6) hx hb hts hinX3 tyX3 tyX3_ok nmX3 hown hK hP hD hS 0 rfl rfl 3 (by decide) (hts (.fieldLink RX3 21 "MixedWords$Mix" "stamp" "I") (by decide +kernel)) (fun _ h9 => h9) rfl (by decide +kernel) rfl rfl (Nat.le_of_ble_eq_true rfl) dX3_put_34 (fun H locs hP hD hS => ?_)
    have hP : va_P (dC, dI) vwCl (wMix h cs (va_up I 123 (nI (sp9 + 1))) L A Q (va_up G 0 (va_up (G 0) i (upd ((G 0) i) j v))) J) H := hP
    have hD : va_D A0 (wMix h cs (va_up I 123 (nI (sp9 + 1))) L A Q (va_up G 0 (va_up (G 0) i (upd ((G 0) i) j v))) J) := hD
    exact xr_v hx hb hr hlocks hK hS dX3_put_37 ((va_up I 123 (nI (sp9 + 1))), L, (va_up A 136 (A 136)), Q, (va_up G 0 (va_up (G 0) i (upd ((G 0) i) j v))), J) ⟨(nI (sp9 + 1)), (A 136), (va_up (G 0) i (upd ((G 0) i) j v)), ⟨rfl, by first | exact Or.inl ⟨by omega, rfl, rfl⟩ | exact Or.inr ⟨by omega, rfl, rfl⟩⟩, rfl⟩ hP hD
  · skip
    refine lv_aload_n hx hb dX3_put_8 rfl (lv_at hl 0 rfl) ?_
    refine va_get (D := (dC, dI)) (ci := 3) (v := .ref (h 136)) (C := RX3) (T := TX3) (N := 6) hx hb hts hinX3 hown hK hP 0 rfl rfl 5 (by decide) (hts (.fieldLink RX3 29 "MixedWords$Mix" "heard" "[I") (by decide +kernel)) (fun _ h9 => h9) rfl dX3_put_9 ?_
    refine lv_iload_n hx hb dX3_put_12 rfl (lv_at hl 1 rfl) ?_
    refine lv_iload_n hx hb dX3_put_13 rfl (lv_at hl 3 rfl) ?_
    refine xa_iast hx hb hK hP hD hS 7 0 rfl rfl (by omega) (by decide) dX3_put_14 (fun H locs hP hD hS => ?_)
    have hP : va_P (dC, dI) vwCl (wMix h cs I L (va_up A 136 (upd (A 136) i v)) Q G J) H := hP
    have hD : va_D A0 (wMix h cs I L (va_up A 136 (upd (A 136) i v)) Q G J) := hD
    refine lv_goto (tgt := 27) hx hb dX3_put_15 (by decide) ?_
    refine lv_aload_n hx hb dX3_put_27 rfl (lv_at hl 0 rfl) ?_
    refine lv_dup hx hb dX3_put_28 rfl ?_
    refine va_get (D := (dC, dI)) (ci := 3) (v := .int (I 123)) (C := RX3) (T := TX3) (N := 6) hx hb hts hinX3 hown hK hP 0 rfl rfl 3 (by decide) (hts (.fieldLink RX3 21 "MixedWords$Mix" "stamp" "I") (by decide +kernel)) (fun _ h9 => h9) rfl dX3_put_29 ?_
    refine xt_i (y := nI sp9) (hst) ?_
    refine lv_iconst (v := nI 1) hx hb dX3_put_32 (by decide) ?_
    refine lv_iadd hx hb dX3_put_33 ?_
    refine xt_i (y := nI (sp9 + 1)) (nI_add _ _) ?_
    refine va_put (D := (dC, dI)) (ci := 3) (v := .int (nI (sp9 + 1))) (ty := .int) (C := RX3) (T := TX3) (N := 6) hx hb hts hinX3 tyX3 tyX3_ok nmX3 hown hK hP hD hS 0 rfl rfl 3 (by decide) (hts (.fieldLink RX3 21 "MixedWords$Mix" "stamp" "I") (by decide +kernel)) (fun _ h9 => h9) rfl (by decide +kernel) rfl rfl (Nat.le_of_ble_eq_true rfl) dX3_put_34 (fun H locs hP hD hS => ?_)
    have hP : va_P (dC, dI) vwCl (wMix h cs (va_up I 123 (nI (sp9 + 1))) L (va_up A 136 (upd (A 136) i v)) Q G J) H := hP
    have hD : va_D A0 (wMix h cs (va_up I 123 (nI (sp9 + 1))) L (va_up A 136 (upd (A 136) i v)) Q G J) := hD
    exact xr_v hx hb hr hlocks hK hS dX3_put_37 ((va_up I 123 (nI (sp9 + 1))), L, (va_up A 136 (upd (A 136) i v)), Q, (va_up G 0 (G 0)), J) ⟨(nI (sp9 + 1)), (upd (A 136) i v), (G 0), ⟨rfl, by first | exact Or.inl ⟨by omega, rfl, rfl⟩ | exact Or.inr ⟨by omega, rfl, rfl⟩⟩, rfl⟩ hP hD
theorem bdX0_forget_0 : (decode cX0_forget 0 = .ok (.aload_n 0, 1)) ∧ (decode cX0_forget 1 = .ok (.iconst 0, 1)) ∧ (decode cX0_forget 2 = .ok (.putfield 22, 3)) ∧ (decode cX0_forget 5 = .ok (.aload_n 0, 1)) ∧ (decode cX0_forget 6 = .ok (.iconst 0, 1)) ∧ (decode cX0_forget 7 = .ok (.putfield 26, 3)) ∧ (decode cX0_forget 10 = .ok (.aload_n 0, 1)) ∧ (decode cX0_forget 11 = .ok (.iconst 0, 1)) ∧ (decode cX0_forget 12 = .ok (.putfield 29, 3)) ∧ (decode cX0_forget 15 = .ok (.return_, 1)) := by decide +kernel
theorem dX0_forget_0 : decode cX0_forget 0 = .ok (.aload_n 0, 1) := bdX0_forget_0.1
theorem dX0_forget_1 : decode cX0_forget 1 = .ok (.iconst 0, 1) := bdX0_forget_0.2.1
theorem dX0_forget_2 : decode cX0_forget 2 = .ok (.putfield 22, 3) := bdX0_forget_0.2.2.1
theorem dX0_forget_5 : decode cX0_forget 5 = .ok (.aload_n 0, 1) := bdX0_forget_0.2.2.2.1
theorem dX0_forget_6 : decode cX0_forget 6 = .ok (.iconst 0, 1) := bdX0_forget_0.2.2.2.2.1
theorem dX0_forget_7 : decode cX0_forget 7 = .ok (.putfield 26, 3) := bdX0_forget_0.2.2.2.2.2.1
theorem dX0_forget_10 : decode cX0_forget 10 = .ok (.aload_n 0, 1) := bdX0_forget_0.2.2.2.2.2.2.1
theorem dX0_forget_11 : decode cX0_forget 11 = .ok (.iconst 0, 1) := bdX0_forget_0.2.2.2.2.2.2.2.1
theorem dX0_forget_12 : decode cX0_forget 12 = .ok (.putfield 29, 3) := bdX0_forget_0.2.2.2.2.2.2.2.2.1
theorem dX0_forget_15 : decode cX0_forget 15 = .ok (.return_, 1) := bdX0_forget_0.2.2.2.2.2.2.2.2.2
set_option maxHeartbeats 4000000 in
set_option maxRecDepth 100000 in
theorem k_X0_forget (l : Launch) (dC : Nat → ClassId) (dI : Nat → Nat → Nat) (h : Nat → Nat) (cs : Nat → ClassId) (sz : Nat) (I : Nat → Int32) (L : Nat → Int64) (A : Nat → Nat → Int32) (Q : Nat → Nat → Int64) (G : Nat → Nat → Nat → Int32) (J : Nat → Nat → Nat → Int64) : Met l yX0_forget wsX0_forget ({ frames := 0, cells := 0, slots := 0, locals := 0 }) (va_Pc [.ref (h 102)] (xPre (dC, dI) (wAct0 h cs I L A Q G J) (tysA cs) sz)) (va_Qv (fun (u : CS) => ∃ x144 : Int32, ∃ x145 : Int32, ∃ x146 : Int32, (x144 = nI 0 ∧ x145 = nI 0 ∧ x146 = nI 0) ∧ u = ((va_up (va_up (va_up I 144 x144) 145 x145) 146 x146), L, A, Q, G, J)) (xB (dC, dI) (tysA cs) (va_A (wAct0 h cs I L A Q G J) sz) (fun u : CS => wAct0 h cs u.1 u.2.1 u.2.2.1 u.2.2.2.1 u.2.2.2.2.1 u.2.2.2.2.2)) (va_A (wAct0 h cs I L A Q G J) sz)) 0 0 (va_A (wAct0 h cs I L A Q G J) sz) := by
  refine Met.ofW (cc := cX0_forget) (maxL := 1) (ret := none) (by decide) rfl ?_
  intro p e s m args below meth c s₁ B hml hv
  obtain ⟨rfl, hsz, hP, hK, hD0, hN⟩ := hv
  have hx := B.exec
  have hb := B.bytes
  have hr := B.returns
  have hts := atoms_spec (ws := wsX0_forget) B.pre
  have hown : s.vm.findClass RX0 = some m.cls := findClass_of_methodNamed B.named
  have hlocks := B.notSynchronized
  subst hsz
  have hD := hD0.self (sz := s.heap.size)
  generalize hAe : va_A (wAct0 h cs I L A Q G J) s.heap.size = A0 at hD ⊢
  have hA : ∀ q : Nat, s.heap.size ≤ q → A0 q := fun q h => by rw [← hAe]; exact Or.inr h
  have hl := lv_entry ([.ref (h 102)]) (n := 1) (Nat.le_of_ble_eq_true rfl)
  rw [lg_entry_eq]
  generalize (lg_sl ([.ref (h 102)]) ++ List.replicate (1 - (lg_sl ([.ref (h 102)])).length) Slot.unset).toArray = ls at hl ⊢
  have hl : lv_has ls 1 [(0, .ref (h 102))] := hl
  generalize hH : s.heap = H at hP ⊢
  have hS : va_S A0 s.heap H [] := by rw [← hH]; exact va_S.rf
  have hinX0 : ∀ w ∈ wsX00, w ∈ wsX0_forget := by decide +kernel
  refine lv_aload_n hx hb dX0_forget_0 rfl (lv_at hl 0 rfl) ?_
  refine lv_iconst (v := nI 0) hx hb dX0_forget_1 (by decide) ?_
  refine va_put (D := (dC, dI)) (ci := 0) (v := .int (nI 0)) (ty := .int) (C := RX0) (T := TX0) (N := 8) hx hb hts hinX0 tyX0 tyX0_ok nmX0 hown hK hP hD hS 0 rfl rfl 5 (by decide) (hts (.fieldLink RX0 22 "MixedWords$Acts" "oldest" "I") (by decide +kernel)) (fun _ h9 => h9) rfl (by decide +kernel) rfl rfl (Nat.le_of_ble_eq_true rfl) dX0_forget_2 (fun H locs hP hD hS => ?_)
  have hP : va_P (dC, dI) vwCl (wAct0 h cs (va_up I 144 (nI 0)) L A Q G J) H := hP
  have hD : va_D A0 (wAct0 h cs (va_up I 144 (nI 0)) L A Q G J) := hD
  refine lv_aload_n hx hb dX0_forget_5 rfl (lv_at hl 0 rfl) ?_
  refine lv_iconst (v := nI 0) hx hb dX0_forget_6 (by decide) ?_
  refine va_put (D := (dC, dI)) (ci := 0) (v := .int (nI 0)) (ty := .int) (C := RX0) (T := TX0) (N := 8) hx hb hts hinX0 tyX0 tyX0_ok nmX0 hown hK hP hD hS 0 rfl rfl 6 (by decide) (hts (.fieldLink RX0 26 "MixedWords$Acts" "back" "I") (by decide +kernel)) (fun _ h9 => h9) rfl (by decide +kernel) rfl rfl (Nat.le_of_ble_eq_true rfl) dX0_forget_7 (fun H locs hP hD hS => ?_)
  have hP : va_P (dC, dI) vwCl (wAct0 h cs (va_up (va_up I 144 (nI 0)) 145 (nI 0)) L A Q G J) H := hP
  have hD : va_D A0 (wAct0 h cs (va_up (va_up I 144 (nI 0)) 145 (nI 0)) L A Q G J) := hD
  refine lv_aload_n hx hb dX0_forget_10 rfl (lv_at hl 0 rfl) ?_
  refine lv_iconst (v := nI 0) hx hb dX0_forget_11 (by decide) ?_
  refine va_put (D := (dC, dI)) (ci := 0) (v := .int (nI 0)) (ty := .int) (C := RX0) (T := TX0) (N := 8) hx hb hts hinX0 tyX0 tyX0_ok nmX0 hown hK hP hD hS 0 rfl rfl 7 (by decide) (hts (.fieldLink RX0 29 "MixedWords$Acts" "on" "I") (by decide +kernel)) (fun _ h9 => h9) rfl (by decide +kernel) rfl rfl (Nat.le_of_ble_eq_true rfl) dX0_forget_12 (fun H locs hP hD hS => ?_)
  have hP : va_P (dC, dI) vwCl (wAct0 h cs (va_up (va_up (va_up I 144 (nI 0)) 145 (nI 0)) 146 (nI 0)) L A Q G J) H := hP
  have hD : va_D A0 (wAct0 h cs (va_up (va_up (va_up I 144 (nI 0)) 145 (nI 0)) 146 (nI 0)) L A Q G J) := hD
  exact xr_v hx hb hr hlocks hK hS dX0_forget_15 ((va_up (va_up (va_up I 144 (nI 0)) 145 (nI 0)) 146 (nI 0)), L, A, Q, G, J) ⟨(nI 0), (nI 0), (nI 0), ⟨rfl, rfl, rfl⟩, rfl⟩ hP hD
