def bc1 (x : Int32) : Int32 := x - ((x.toUInt32 >>> ((nI 1).toUInt32 &&& Int32.toUInt32 31)).toInt32 &&& nI 1431655765)
def bc2 (x : Int32) : Int32 := (x &&& nI 858993459) + ((x.toUInt32 >>> ((nI 2).toUInt32 &&& Int32.toUInt32 31)).toInt32 &&& nI 858993459)
def bc3 (x : Int32) : Int32 := (x + (x.toUInt32 >>> ((nI 4).toUInt32 &&& Int32.toUInt32 31)).toInt32) &&& nI 252645135
def bc4 (x : Int32) : Int32 := x + (x.toUInt32 >>> ((nI 8).toUInt32 &&& Int32.toUInt32 31)).toInt32
def bc5 (x : Int32) : Int32 := x + (x.toUInt32 >>> ((nI 16).toUInt32 &&& Int32.toUInt32 31)).toInt32
def bcF (x : Int32) : Int32 := bc5 (bc4 (bc3 (bc2 (bc1 x)))) &&& nI 63
def wC (g : Nat → Nat → Int32) (R M : Nat) (y : Int32) : Int64 := lpD (gramC g R M y) (selC y M) 4 0 (nI 1 <<< (nI (selC y M) &&& 31) - nI 1)
def chS (w : Int32 → Int64) (x y : Int32) (p : Int32 × Int64) : Int32 × Int64 := if bcF y = x ∧ p.2 < w y then (y, w y) else p
def chCF (w : Int32 → Int64) (M : Nat) (x : Int32) (T : Nat) : Nat → Int32 × Int64
  | 0 => (nI 0, -1)
  | n + 1 => chS w x (mirF (nI (T - n)) M) (chCF w M x T n)
theorem ch_s {w : Int32 → Int64} {M T n2 : Nat} {x : Int32} (h1 : 1 ≤ n2) (h2 : n2 ≤ T) : chCF w M x T (T - (n2 - 1)) = chS w x (mirF (nI n2) M) (chCF w M x T (T - n2)) := by
  rw [show T - (n2 - 1) = (T - n2) + 1 by omega, chCF, show T - (T - n2) = n2 by omega]
theorem ch_k {w : Int32 → Int64} {M T n2 : Nat} {x z2 : Int32} {z3 : Int64} (h1 : 1 ≤ n2) (h2 : n2 ≤ T) (hc : z2 = (chCF w M x T (T - n2)).1 ∧ z3 = (chCF w M x T (T - n2)).2) (hn : ¬ (bcF (mirF (nI n2) M) = x ∧ z3 < w (mirF (nI n2) M))) : z2 = (chCF w M x T (T - (n2 - 1))).1 ∧ z3 = (chCF w M x T (T - (n2 - 1))).2 := by
  rw [ch_s h1 h2, chS, if_neg (by rw [← hc.2]; exact hn)]
  exact hc
theorem ch_t {w : Int32 → Int64} {M T n2 : Nat} {x z2 : Int32} {z3 v : Int64} (h1 : 1 ≤ n2) (h2 : n2 ≤ T) (hc : z2 = (chCF w M x T (T - n2)).1 ∧ z3 = (chCF w M x T (T - n2)).2) (hy : bcF (mirF (nI n2) M) = x) (hv : v = w (mirF (nI n2) M)) (hl : z3 < v) : mirF (nI n2) M = (chCF w M x T (T - (n2 - 1))).1 ∧ v = (chCF w M x T (T - (n2 - 1))).2 := by
  rw [ch_s h1 h2, chS, if_pos (by rw [← hc.2, ← hv]; exact ⟨hy, hl⟩)]
  exact ⟨rfl, hv⟩
theorem bdJ6_bitCount_0f7a4_0 : (decode cJ6_bitCount_0f7a4 0 = .ok (.iload_n 0, 1)) ∧ (decode cJ6_bitCount_0f7a4 1 = .ok (.iload_n 0, 1)) ∧ (decode cJ6_bitCount_0f7a4 2 = .ok (.iconst 1, 1)) ∧ (decode cJ6_bitCount_0f7a4 3 = .ok (.iushr, 1)) ∧ (decode cJ6_bitCount_0f7a4 4 = .ok (.ldc_w 265, 3)) ∧ (decode cJ6_bitCount_0f7a4 7 = .ok (.iand, 1)) ∧ (decode cJ6_bitCount_0f7a4 8 = .ok (.isub, 1)) ∧ (decode cJ6_bitCount_0f7a4 9 = .ok (.istore_n 0, 1)) ∧ (decode cJ6_bitCount_0f7a4 10 = .ok (.iload_n 0, 1)) ∧ (decode cJ6_bitCount_0f7a4 11 = .ok (.ldc_w 266, 3)) ∧ (decode cJ6_bitCount_0f7a4 14 = .ok (.iand, 1)) ∧ (decode cJ6_bitCount_0f7a4 15 = .ok (.iload_n 0, 1)) ∧ (decode cJ6_bitCount_0f7a4 16 = .ok (.iconst 2, 1)) ∧ (decode cJ6_bitCount_0f7a4 17 = .ok (.iushr, 1)) ∧ (decode cJ6_bitCount_0f7a4 18 = .ok (.ldc_w 266, 3)) ∧ (decode cJ6_bitCount_0f7a4 21 = .ok (.iand, 1)) := by decide +kernel
theorem dJ6_bitCount_0f7a4_0 : decode cJ6_bitCount_0f7a4 0 = .ok (.iload_n 0, 1) := bdJ6_bitCount_0f7a4_0.1
theorem dJ6_bitCount_0f7a4_1 : decode cJ6_bitCount_0f7a4 1 = .ok (.iload_n 0, 1) := bdJ6_bitCount_0f7a4_0.2.1
theorem dJ6_bitCount_0f7a4_2 : decode cJ6_bitCount_0f7a4 2 = .ok (.iconst 1, 1) := bdJ6_bitCount_0f7a4_0.2.2.1
theorem dJ6_bitCount_0f7a4_3 : decode cJ6_bitCount_0f7a4 3 = .ok (.iushr, 1) := bdJ6_bitCount_0f7a4_0.2.2.2.1
theorem dJ6_bitCount_0f7a4_4 : decode cJ6_bitCount_0f7a4 4 = .ok (.ldc_w 265, 3) := bdJ6_bitCount_0f7a4_0.2.2.2.2.1
theorem dJ6_bitCount_0f7a4_7 : decode cJ6_bitCount_0f7a4 7 = .ok (.iand, 1) := bdJ6_bitCount_0f7a4_0.2.2.2.2.2.1
theorem dJ6_bitCount_0f7a4_8 : decode cJ6_bitCount_0f7a4 8 = .ok (.isub, 1) := bdJ6_bitCount_0f7a4_0.2.2.2.2.2.2.1
theorem dJ6_bitCount_0f7a4_9 : decode cJ6_bitCount_0f7a4 9 = .ok (.istore_n 0, 1) := bdJ6_bitCount_0f7a4_0.2.2.2.2.2.2.2.1
theorem dJ6_bitCount_0f7a4_10 : decode cJ6_bitCount_0f7a4 10 = .ok (.iload_n 0, 1) := bdJ6_bitCount_0f7a4_0.2.2.2.2.2.2.2.2.1
theorem dJ6_bitCount_0f7a4_11 : decode cJ6_bitCount_0f7a4 11 = .ok (.ldc_w 266, 3) := bdJ6_bitCount_0f7a4_0.2.2.2.2.2.2.2.2.2.1
theorem dJ6_bitCount_0f7a4_14 : decode cJ6_bitCount_0f7a4 14 = .ok (.iand, 1) := bdJ6_bitCount_0f7a4_0.2.2.2.2.2.2.2.2.2.2.1
theorem dJ6_bitCount_0f7a4_15 : decode cJ6_bitCount_0f7a4 15 = .ok (.iload_n 0, 1) := bdJ6_bitCount_0f7a4_0.2.2.2.2.2.2.2.2.2.2.2.1
theorem dJ6_bitCount_0f7a4_16 : decode cJ6_bitCount_0f7a4 16 = .ok (.iconst 2, 1) := bdJ6_bitCount_0f7a4_0.2.2.2.2.2.2.2.2.2.2.2.2.1
theorem dJ6_bitCount_0f7a4_17 : decode cJ6_bitCount_0f7a4 17 = .ok (.iushr, 1) := bdJ6_bitCount_0f7a4_0.2.2.2.2.2.2.2.2.2.2.2.2.2.1
theorem dJ6_bitCount_0f7a4_18 : decode cJ6_bitCount_0f7a4 18 = .ok (.ldc_w 266, 3) := bdJ6_bitCount_0f7a4_0.2.2.2.2.2.2.2.2.2.2.2.2.2.2.1
theorem dJ6_bitCount_0f7a4_21 : decode cJ6_bitCount_0f7a4 21 = .ok (.iand, 1) := bdJ6_bitCount_0f7a4_0.2.2.2.2.2.2.2.2.2.2.2.2.2.2.2
theorem bdJ6_bitCount_0f7a4_22 : (decode cJ6_bitCount_0f7a4 22 = .ok (.iadd, 1)) ∧ (decode cJ6_bitCount_0f7a4 23 = .ok (.istore_n 0, 1)) ∧ (decode cJ6_bitCount_0f7a4 24 = .ok (.iload_n 0, 1)) ∧ (decode cJ6_bitCount_0f7a4 25 = .ok (.iload_n 0, 1)) ∧ (decode cJ6_bitCount_0f7a4 26 = .ok (.iconst 4, 1)) ∧ (decode cJ6_bitCount_0f7a4 27 = .ok (.iushr, 1)) ∧ (decode cJ6_bitCount_0f7a4 28 = .ok (.iadd, 1)) ∧ (decode cJ6_bitCount_0f7a4 29 = .ok (.ldc_w 267, 3)) ∧ (decode cJ6_bitCount_0f7a4 32 = .ok (.iand, 1)) ∧ (decode cJ6_bitCount_0f7a4 33 = .ok (.istore_n 0, 1)) ∧ (decode cJ6_bitCount_0f7a4 34 = .ok (.iload_n 0, 1)) ∧ (decode cJ6_bitCount_0f7a4 35 = .ok (.iload_n 0, 1)) ∧ (decode cJ6_bitCount_0f7a4 36 = .ok (.bipush 8, 2)) ∧ (decode cJ6_bitCount_0f7a4 38 = .ok (.iushr, 1)) ∧ (decode cJ6_bitCount_0f7a4 39 = .ok (.iadd, 1)) ∧ (decode cJ6_bitCount_0f7a4 40 = .ok (.istore_n 0, 1)) := by decide +kernel
theorem dJ6_bitCount_0f7a4_22 : decode cJ6_bitCount_0f7a4 22 = .ok (.iadd, 1) := bdJ6_bitCount_0f7a4_22.1
theorem dJ6_bitCount_0f7a4_23 : decode cJ6_bitCount_0f7a4 23 = .ok (.istore_n 0, 1) := bdJ6_bitCount_0f7a4_22.2.1
theorem dJ6_bitCount_0f7a4_24 : decode cJ6_bitCount_0f7a4 24 = .ok (.iload_n 0, 1) := bdJ6_bitCount_0f7a4_22.2.2.1
theorem dJ6_bitCount_0f7a4_25 : decode cJ6_bitCount_0f7a4 25 = .ok (.iload_n 0, 1) := bdJ6_bitCount_0f7a4_22.2.2.2.1
theorem dJ6_bitCount_0f7a4_26 : decode cJ6_bitCount_0f7a4 26 = .ok (.iconst 4, 1) := bdJ6_bitCount_0f7a4_22.2.2.2.2.1
theorem dJ6_bitCount_0f7a4_27 : decode cJ6_bitCount_0f7a4 27 = .ok (.iushr, 1) := bdJ6_bitCount_0f7a4_22.2.2.2.2.2.1
theorem dJ6_bitCount_0f7a4_28 : decode cJ6_bitCount_0f7a4 28 = .ok (.iadd, 1) := bdJ6_bitCount_0f7a4_22.2.2.2.2.2.2.1
theorem dJ6_bitCount_0f7a4_29 : decode cJ6_bitCount_0f7a4 29 = .ok (.ldc_w 267, 3) := bdJ6_bitCount_0f7a4_22.2.2.2.2.2.2.2.1
theorem dJ6_bitCount_0f7a4_32 : decode cJ6_bitCount_0f7a4 32 = .ok (.iand, 1) := bdJ6_bitCount_0f7a4_22.2.2.2.2.2.2.2.2.1
theorem dJ6_bitCount_0f7a4_33 : decode cJ6_bitCount_0f7a4 33 = .ok (.istore_n 0, 1) := bdJ6_bitCount_0f7a4_22.2.2.2.2.2.2.2.2.2.1
theorem dJ6_bitCount_0f7a4_34 : decode cJ6_bitCount_0f7a4 34 = .ok (.iload_n 0, 1) := bdJ6_bitCount_0f7a4_22.2.2.2.2.2.2.2.2.2.2.1
theorem dJ6_bitCount_0f7a4_35 : decode cJ6_bitCount_0f7a4 35 = .ok (.iload_n 0, 1) := bdJ6_bitCount_0f7a4_22.2.2.2.2.2.2.2.2.2.2.2.1
theorem dJ6_bitCount_0f7a4_36 : decode cJ6_bitCount_0f7a4 36 = .ok (.bipush 8, 2) := bdJ6_bitCount_0f7a4_22.2.2.2.2.2.2.2.2.2.2.2.2.1
theorem dJ6_bitCount_0f7a4_38 : decode cJ6_bitCount_0f7a4 38 = .ok (.iushr, 1) := bdJ6_bitCount_0f7a4_22.2.2.2.2.2.2.2.2.2.2.2.2.2.1
theorem dJ6_bitCount_0f7a4_39 : decode cJ6_bitCount_0f7a4 39 = .ok (.iadd, 1) := bdJ6_bitCount_0f7a4_22.2.2.2.2.2.2.2.2.2.2.2.2.2.2.1
theorem dJ6_bitCount_0f7a4_40 : decode cJ6_bitCount_0f7a4 40 = .ok (.istore_n 0, 1) := bdJ6_bitCount_0f7a4_22.2.2.2.2.2.2.2.2.2.2.2.2.2.2.2
theorem bdJ6_bitCount_0f7a4_41 : (decode cJ6_bitCount_0f7a4 41 = .ok (.iload_n 0, 1)) ∧ (decode cJ6_bitCount_0f7a4 42 = .ok (.iload_n 0, 1)) ∧ (decode cJ6_bitCount_0f7a4 43 = .ok (.bipush 16, 2)) ∧ (decode cJ6_bitCount_0f7a4 45 = .ok (.iushr, 1)) ∧ (decode cJ6_bitCount_0f7a4 46 = .ok (.iadd, 1)) ∧ (decode cJ6_bitCount_0f7a4 47 = .ok (.istore_n 0, 1)) ∧ (decode cJ6_bitCount_0f7a4 48 = .ok (.iload_n 0, 1)) ∧ (decode cJ6_bitCount_0f7a4 49 = .ok (.bipush 63, 2)) ∧ (decode cJ6_bitCount_0f7a4 51 = .ok (.iand, 1)) ∧ (decode cJ6_bitCount_0f7a4 52 = .ok (.ireturn, 1)) := by decide +kernel
theorem dJ6_bitCount_0f7a4_41 : decode cJ6_bitCount_0f7a4 41 = .ok (.iload_n 0, 1) := bdJ6_bitCount_0f7a4_41.1
theorem dJ6_bitCount_0f7a4_42 : decode cJ6_bitCount_0f7a4 42 = .ok (.iload_n 0, 1) := bdJ6_bitCount_0f7a4_41.2.1
theorem dJ6_bitCount_0f7a4_43 : decode cJ6_bitCount_0f7a4 43 = .ok (.bipush 16, 2) := bdJ6_bitCount_0f7a4_41.2.2.1
theorem dJ6_bitCount_0f7a4_45 : decode cJ6_bitCount_0f7a4 45 = .ok (.iushr, 1) := bdJ6_bitCount_0f7a4_41.2.2.2.1
theorem dJ6_bitCount_0f7a4_46 : decode cJ6_bitCount_0f7a4 46 = .ok (.iadd, 1) := bdJ6_bitCount_0f7a4_41.2.2.2.2.1
theorem dJ6_bitCount_0f7a4_47 : decode cJ6_bitCount_0f7a4 47 = .ok (.istore_n 0, 1) := bdJ6_bitCount_0f7a4_41.2.2.2.2.2.1
theorem dJ6_bitCount_0f7a4_48 : decode cJ6_bitCount_0f7a4 48 = .ok (.iload_n 0, 1) := bdJ6_bitCount_0f7a4_41.2.2.2.2.2.2.1
theorem dJ6_bitCount_0f7a4_49 : decode cJ6_bitCount_0f7a4 49 = .ok (.bipush 63, 2) := bdJ6_bitCount_0f7a4_41.2.2.2.2.2.2.2.1
theorem dJ6_bitCount_0f7a4_51 : decode cJ6_bitCount_0f7a4 51 = .ok (.iand, 1) := bdJ6_bitCount_0f7a4_41.2.2.2.2.2.2.2.2.1
theorem dJ6_bitCount_0f7a4_52 : decode cJ6_bitCount_0f7a4 52 = .ok (.ireturn, 1) := bdJ6_bitCount_0f7a4_41.2.2.2.2.2.2.2.2.2
set_option maxHeartbeats 4000000 in
set_option maxRecDepth 100000 in
theorem k_J6_bitCount (l : Launch) (dC : Nat → ClassId) (dI : Nat → Nat → Nat) (h : Nat → Nat) (cs : Nat → ClassId) (sz : Nat) (I : Nat → Int32) (L : Nat → Int64) (A : Nat → Nat → Int32) (Q : Nat → Nat → Int64) (G : Nat → Nat → Nat → Int32) (J : Nat → Nat → Nat → Int64) (x : Int32) : Met l yJ6_bitCount_0f7a4 wsJ6_bitCount_0f7a4 ({ frames := 0, cells := 0, slots := 0, locals := 0 }) (va_Pc [.int x] (xPre (dC, dI) ([] : va_W) (tysA cs) sz)) (va_Qi (fun (r : Int32) (u : CS) => (r = bcF x) ∧ u = (I, L, A, Q, G, J)) (xB (dC, dI) (tysA cs) (va_A ([] : va_W) sz) (fun _ : CS => ([] : va_W))) (va_A ([] : va_W) sz)) 0 0 (va_A ([] : va_W) sz) := by
  refine Met.ofW (cc := cJ6_bitCount_0f7a4) (maxL := 1) (ret := (some .int)) (by decide) rfl ?_
  intro p e s m args below meth c s₁ B hml hv
  obtain ⟨rfl, hsz, hP, hK, hD0, hN⟩ := hv
  have hx := B.exec
  have hb := B.bytes
  have hr := B.returns
  have hts := atoms_spec (ws := wsJ6_bitCount_0f7a4) B.pre
  have hown : s.vm.findClass RJ6 = some m.cls := findClass_of_methodNamed B.named
  have hlocks := B.notSynchronized
  subst hsz
  have hD := hD0.self (sz := s.heap.size)
  generalize hAe : va_A ([] : va_W) s.heap.size = A0 at hD ⊢
  have hA : ∀ q : Nat, s.heap.size ≤ q → A0 q := fun q h => by rw [← hAe]; exact Or.inr h
  have hl := lv_entry ([.int x]) (n := 1) (Nat.le_of_ble_eq_true rfl)
  rw [lg_entry_eq]
  generalize (lg_sl ([.int x]) ++ List.replicate (1 - (lg_sl ([.int x])).length) Slot.unset).toArray = ls at hl ⊢
  have hl : lv_has ls 1 [(0, .int x)] := hl
  generalize hH : s.heap = H at hP ⊢
  have hS : va_S A0 s.heap H [] := by rw [← hH]; exact va_S.rf
  refine lv_iload_n hx hb dJ6_bitCount_0f7a4_0 rfl (lv_at hl 0 rfl) ?_
  refine lv_iload_n hx hb dJ6_bitCount_0f7a4_1 rfl (lv_at hl 0 rfl) ?_
  refine lv_iconst (v := nI 1) hx hb dJ6_bitCount_0f7a4_2 (by decide) ?_
  refine lv_iushr (v := (x.toUInt32 >>> ((nI 1).toUInt32 &&& Int32.toUInt32 31)).toInt32) hx hb dJ6_bitCount_0f7a4_3 rfl ?_
  refine lv_ldcw (v := 1431655765) hx hb hown (hts (.constant RJ6 265 (1431655765)) (by decide +kernel)) dJ6_bitCount_0f7a4_4 ?_
  refine xt_i (y := nI 1431655765) (rfl) ?_
  refine lv_iand hx hb dJ6_bitCount_0f7a4_7 ?_
  refine lv_isub hx hb dJ6_bitCount_0f7a4_8 ?_
  refine lv_topi (fun x_1 ex_1 => ?_)
  refine lv_istore_n (lv' := [(0, .int x_1)]) hx hb dJ6_bitCount_0f7a4_9 rfl hl (by decide) rfl (fun ls hl => ?_)
  refine lv_iload_n hx hb dJ6_bitCount_0f7a4_10 rfl (lv_at hl 0 rfl) ?_
  refine lv_ldcw (v := 858993459) hx hb hown (hts (.constant RJ6 266 (858993459)) (by decide +kernel)) dJ6_bitCount_0f7a4_11 ?_
  refine xt_i (y := nI 858993459) (rfl) ?_
  refine lv_iand hx hb dJ6_bitCount_0f7a4_14 ?_
  refine lv_iload_n hx hb dJ6_bitCount_0f7a4_15 rfl (lv_at hl 0 rfl) ?_
  refine lv_iconst (v := nI 2) hx hb dJ6_bitCount_0f7a4_16 (by decide) ?_
  refine lv_iushr (v := (x_1.toUInt32 >>> ((nI 2).toUInt32 &&& Int32.toUInt32 31)).toInt32) hx hb dJ6_bitCount_0f7a4_17 rfl ?_
  refine lv_ldcw (v := 858993459) hx hb hown (hts (.constant RJ6 266 (858993459)) (by decide +kernel)) dJ6_bitCount_0f7a4_18 ?_
  refine xt_i (y := nI 858993459) (rfl) ?_
  refine lv_iand hx hb dJ6_bitCount_0f7a4_21 ?_
  refine lv_iadd hx hb dJ6_bitCount_0f7a4_22 ?_
  refine lv_topi (fun x_2 ex_2 => ?_)
  refine lv_istore_n (lv' := [(0, .int x_2)]) hx hb dJ6_bitCount_0f7a4_23 rfl hl (by decide) rfl (fun ls hl => ?_)
  refine lv_iload_n hx hb dJ6_bitCount_0f7a4_24 rfl (lv_at hl 0 rfl) ?_
  refine lv_iload_n hx hb dJ6_bitCount_0f7a4_25 rfl (lv_at hl 0 rfl) ?_
  refine lv_iconst (v := nI 4) hx hb dJ6_bitCount_0f7a4_26 (by decide) ?_
  refine lv_iushr (v := (x_2.toUInt32 >>> ((nI 4).toUInt32 &&& Int32.toUInt32 31)).toInt32) hx hb dJ6_bitCount_0f7a4_27 rfl ?_
  refine lv_iadd hx hb dJ6_bitCount_0f7a4_28 ?_
  refine lv_ldcw (v := 252645135) hx hb hown (hts (.constant RJ6 267 (252645135)) (by decide +kernel)) dJ6_bitCount_0f7a4_29 ?_
  refine xt_i (y := nI 252645135) (rfl) ?_
  refine lv_iand hx hb dJ6_bitCount_0f7a4_32 ?_
  refine lv_topi (fun x_3 ex_3 => ?_)
  refine lv_istore_n (lv' := [(0, .int x_3)]) hx hb dJ6_bitCount_0f7a4_33 rfl hl (by decide) rfl (fun ls hl => ?_)
  refine lv_iload_n hx hb dJ6_bitCount_0f7a4_34 rfl (lv_at hl 0 rfl) ?_
  refine lv_iload_n hx hb dJ6_bitCount_0f7a4_35 rfl (lv_at hl 0 rfl) ?_
  refine lv_bipush (v := nI 8) hx hb dJ6_bitCount_0f7a4_36 (by decide) ?_
  refine lv_iushr (v := (x_3.toUInt32 >>> ((nI 8).toUInt32 &&& Int32.toUInt32 31)).toInt32) hx hb dJ6_bitCount_0f7a4_38 rfl ?_
  refine lv_iadd hx hb dJ6_bitCount_0f7a4_39 ?_
  refine lv_topi (fun x_4 ex_4 => ?_)
  refine lv_istore_n (lv' := [(0, .int x_4)]) hx hb dJ6_bitCount_0f7a4_40 rfl hl (by decide) rfl (fun ls hl => ?_)
  refine lv_iload_n hx hb dJ6_bitCount_0f7a4_41 rfl (lv_at hl 0 rfl) ?_
  refine lv_iload_n hx hb dJ6_bitCount_0f7a4_42 rfl (lv_at hl 0 rfl) ?_
  refine lv_bipush (v := nI 16) hx hb dJ6_bitCount_0f7a4_43 (by decide) ?_
  refine lv_iushr (v := (x_4.toUInt32 >>> ((nI 16).toUInt32 &&& Int32.toUInt32 31)).toInt32) hx hb dJ6_bitCount_0f7a4_45 rfl ?_
  refine lv_iadd hx hb dJ6_bitCount_0f7a4_46 ?_
  refine lv_topi (fun x_5 ex_5 => ?_)
  refine lv_istore_n (lv' := [(0, .int x_5)]) hx hb dJ6_bitCount_0f7a4_47 rfl hl (by decide) rfl (fun ls hl => ?_)
  refine lv_iload_n hx hb dJ6_bitCount_0f7a4_48 rfl (lv_at hl 0 rfl) ?_
  refine lv_bipush (v := nI 63) hx hb dJ6_bitCount_0f7a4_49 (by decide) ?_
  refine lv_iand hx hb dJ6_bitCount_0f7a4_51 ?_
  exact xr_i (v := (x_5 &&& (nI 63))) hx hb hr hlocks hK hS dJ6_bitCount_0f7a4_52 (I, L, A, Q, G, J) ⟨(by unfold bcF bc5 bc4 bc3 bc2 bc1; subst_vars; rfl), rfl⟩ hP hD
set_option maxRecDepth 20000 in
theorem ggX9_chosen_X9_mirror : GoodIn wsX9_chosen wsX9_mirror := goodIn_r _ [8] rfl (by decide +kernel)
set_option maxRecDepth 20000 in
theorem gX9_chosen_X9_mirror : GoodIn wsX9_chosen (va_wsS RX9 258 yX9_mirror wsX9_mirror) := goodIn_app (goodIn_of _ (by decide +kernel)) ggX9_chosen_X9_mirror
set_option maxRecDepth 20000 in
theorem ggX9_chosen_J6_bitCount_0f7a4 : GoodIn wsX9_chosen wsJ6_bitCount_0f7a4 := goodIn_r _ [12, 13, 14, 15] rfl (by decide +kernel)
set_option maxRecDepth 20000 in
theorem gX9_chosen_J6_bitCount_0f7a4 : GoodIn wsX9_chosen (va_wsS RX9 261 yJ6_bitCount_0f7a4 wsJ6_bitCount_0f7a4) := goodIn_app (goodIn_of _ (by decide +kernel)) ggX9_chosen_J6_bitCount_0f7a4
set_option maxRecDepth 20000 in
theorem ggX9_chosen_X2_worthOf : GoodIn wsX9_chosen wsX2_worthOf := goodIn_r _ [20, 21, 22, 23, 24, 25, 26, 7, 27, 28, 29, 19, 30, 40, 41, 42, 43, 44, 45, 46, 47, 48, 49, 50] rfl (by decide +kernel)
set_option maxRecDepth 20000 in
theorem gX9_chosen_X2_worthOf : GoodIn wsX9_chosen (wsV RX9 180 RX2 yX2_worthOf wsX2_worthOf) := goodIn_app (goodIn_of _ (by decide +kernel)) ggX9_chosen_X2_worthOf
theorem bdX9_chosen_0 : (decode cX9_chosen 0 = .ok (.iload_n 1, 1)) ∧ (decode cX9_chosen 1 = .ok (.iconst 1, 1)) ∧ (decode cX9_chosen 2 = .ok (.if_icmp .lt 14, 3)) ∧ (decode cX9_chosen 5 = .ok (.iload_n 1, 1)) ∧ (decode cX9_chosen 6 = .ok (.aload_n 0, 1)) ∧ (decode cX9_chosen 7 = .ok (.getfield 12, 3)) ∧ (decode cX9_chosen 10 = .ok (.getfield 106, 3)) ∧ (decode cX9_chosen 13 = .ok (.if_icmp .le 5, 3)) ∧ (decode cX9_chosen 16 = .ok (.iconst (-1), 1)) ∧ (decode cX9_chosen 17 = .ok (.ireturn, 1)) ∧ (decode cX9_chosen 18 = .ok (.iconst 0, 1)) ∧ (decode cX9_chosen 19 = .ok (.istore_n 2, 1)) ∧ (decode cX9_chosen 20 = .ok (.ldc2_w 178, 3)) ∧ (decode cX9_chosen 23 = .ok (.lstore_n 3, 1)) ∧ (decode cX9_chosen 24 = .ok (.iconst 1, 1)) ∧ (decode cX9_chosen 25 = .ok (.aload_n 0, 1)) := by decide +kernel
theorem dX9_chosen_0 : decode cX9_chosen 0 = .ok (.iload_n 1, 1) := bdX9_chosen_0.1
theorem dX9_chosen_1 : decode cX9_chosen 1 = .ok (.iconst 1, 1) := bdX9_chosen_0.2.1
theorem dX9_chosen_2 : decode cX9_chosen 2 = .ok (.if_icmp .lt 14, 3) := bdX9_chosen_0.2.2.1
theorem dX9_chosen_5 : decode cX9_chosen 5 = .ok (.iload_n 1, 1) := bdX9_chosen_0.2.2.2.1
theorem dX9_chosen_6 : decode cX9_chosen 6 = .ok (.aload_n 0, 1) := bdX9_chosen_0.2.2.2.2.1
theorem dX9_chosen_7 : decode cX9_chosen 7 = .ok (.getfield 12, 3) := bdX9_chosen_0.2.2.2.2.2.1
theorem dX9_chosen_10 : decode cX9_chosen 10 = .ok (.getfield 106, 3) := bdX9_chosen_0.2.2.2.2.2.2.1
theorem dX9_chosen_13 : decode cX9_chosen 13 = .ok (.if_icmp .le 5, 3) := bdX9_chosen_0.2.2.2.2.2.2.2.1
theorem dX9_chosen_16 : decode cX9_chosen 16 = .ok (.iconst (-1), 1) := bdX9_chosen_0.2.2.2.2.2.2.2.2.1
theorem dX9_chosen_17 : decode cX9_chosen 17 = .ok (.ireturn, 1) := bdX9_chosen_0.2.2.2.2.2.2.2.2.2.1
theorem dX9_chosen_18 : decode cX9_chosen 18 = .ok (.iconst 0, 1) := bdX9_chosen_0.2.2.2.2.2.2.2.2.2.2.1
theorem dX9_chosen_19 : decode cX9_chosen 19 = .ok (.istore_n 2, 1) := bdX9_chosen_0.2.2.2.2.2.2.2.2.2.2.2.1
theorem dX9_chosen_20 : decode cX9_chosen 20 = .ok (.ldc2_w 178, 3) := bdX9_chosen_0.2.2.2.2.2.2.2.2.2.2.2.2.1
theorem dX9_chosen_23 : decode cX9_chosen 23 = .ok (.lstore_n 3, 1) := bdX9_chosen_0.2.2.2.2.2.2.2.2.2.2.2.2.2.1
theorem dX9_chosen_24 : decode cX9_chosen 24 = .ok (.iconst 1, 1) := bdX9_chosen_0.2.2.2.2.2.2.2.2.2.2.2.2.2.2.1
theorem dX9_chosen_25 : decode cX9_chosen 25 = .ok (.aload_n 0, 1) := bdX9_chosen_0.2.2.2.2.2.2.2.2.2.2.2.2.2.2.2
theorem bdX9_chosen_26 : (decode cX9_chosen 26 = .ok (.getfield 12, 3)) ∧ (decode cX9_chosen 29 = .ok (.getfield 106, 3)) ∧ (decode cX9_chosen 32 = .ok (.ishl, 1)) ∧ (decode cX9_chosen 33 = .ok (.iconst 1, 1)) ∧ (decode cX9_chosen 34 = .ok (.isub, 1)) ∧ (decode cX9_chosen 35 = .ok (.istore 5, 2)) ∧ (decode cX9_chosen 37 = .ok (.iload 5, 2)) ∧ (decode cX9_chosen 39 = .ok (.iconst 1, 1)) ∧ (decode cX9_chosen 40 = .ok (.if_icmp .lt 63, 3)) ∧ (decode cX9_chosen 43 = .ok (.iload 5, 2)) ∧ (decode cX9_chosen 45 = .ok (.aload_n 0, 1)) ∧ (decode cX9_chosen 46 = .ok (.getfield 12, 3)) ∧ (decode cX9_chosen 49 = .ok (.getfield 106, 3)) ∧ (decode cX9_chosen 52 = .ok (.invokestatic 258, 3)) ∧ (decode cX9_chosen 55 = .ok (.istore 6, 2)) ∧ (decode cX9_chosen 57 = .ok (.iload 6, 2)) := by decide +kernel
theorem dX9_chosen_26 : decode cX9_chosen 26 = .ok (.getfield 12, 3) := bdX9_chosen_26.1
theorem dX9_chosen_29 : decode cX9_chosen 29 = .ok (.getfield 106, 3) := bdX9_chosen_26.2.1
theorem dX9_chosen_32 : decode cX9_chosen 32 = .ok (.ishl, 1) := bdX9_chosen_26.2.2.1
theorem dX9_chosen_33 : decode cX9_chosen 33 = .ok (.iconst 1, 1) := bdX9_chosen_26.2.2.2.1
theorem dX9_chosen_34 : decode cX9_chosen 34 = .ok (.isub, 1) := bdX9_chosen_26.2.2.2.2.1
theorem dX9_chosen_35 : decode cX9_chosen 35 = .ok (.istore 5, 2) := bdX9_chosen_26.2.2.2.2.2.1
theorem dX9_chosen_37 : decode cX9_chosen 37 = .ok (.iload 5, 2) := bdX9_chosen_26.2.2.2.2.2.2.1
theorem dX9_chosen_39 : decode cX9_chosen 39 = .ok (.iconst 1, 1) := bdX9_chosen_26.2.2.2.2.2.2.2.1
theorem dX9_chosen_40 : decode cX9_chosen 40 = .ok (.if_icmp .lt 63, 3) := bdX9_chosen_26.2.2.2.2.2.2.2.2.1
theorem dX9_chosen_43 : decode cX9_chosen 43 = .ok (.iload 5, 2) := bdX9_chosen_26.2.2.2.2.2.2.2.2.2.1
theorem dX9_chosen_45 : decode cX9_chosen 45 = .ok (.aload_n 0, 1) := bdX9_chosen_26.2.2.2.2.2.2.2.2.2.2.1
theorem dX9_chosen_46 : decode cX9_chosen 46 = .ok (.getfield 12, 3) := bdX9_chosen_26.2.2.2.2.2.2.2.2.2.2.2.1
theorem dX9_chosen_49 : decode cX9_chosen 49 = .ok (.getfield 106, 3) := bdX9_chosen_26.2.2.2.2.2.2.2.2.2.2.2.2.1
theorem dX9_chosen_52 : decode cX9_chosen 52 = .ok (.invokestatic 258, 3) := bdX9_chosen_26.2.2.2.2.2.2.2.2.2.2.2.2.2.1
theorem dX9_chosen_55 : decode cX9_chosen 55 = .ok (.istore 6, 2) := bdX9_chosen_26.2.2.2.2.2.2.2.2.2.2.2.2.2.2.1
theorem dX9_chosen_57 : decode cX9_chosen 57 = .ok (.iload 6, 2) := bdX9_chosen_26.2.2.2.2.2.2.2.2.2.2.2.2.2.2.2
theorem bdX9_chosen_59 : (decode cX9_chosen 59 = .ok (.invokestatic 261, 3)) ∧ (decode cX9_chosen 62 = .ok (.iload_n 1, 1)) ∧ (decode cX9_chosen 63 = .ok (.if_icmp .eq 6, 3)) ∧ (decode cX9_chosen 66 = .ok (.goto 31, 3)) ∧ (decode cX9_chosen 69 = .ok (.aload_n 0, 1)) ∧ (decode cX9_chosen 70 = .ok (.getfield 51, 3)) ∧ (decode cX9_chosen 73 = .ok (.aload_n 0, 1)) ∧ (decode cX9_chosen 74 = .ok (.getfield 12, 3)) ∧ (decode cX9_chosen 77 = .ok (.iload 6, 2)) ∧ (decode cX9_chosen 79 = .ok (.invokevirtual 180, 3)) ∧ (decode cX9_chosen 82 = .ok (.lstore 7, 2)) ∧ (decode cX9_chosen 84 = .ok (.lload 7, 2)) ∧ (decode cX9_chosen 86 = .ok (.lload_n 3, 1)) ∧ (decode cX9_chosen 87 = .ok (.lcmp, 1)) ∧ (decode cX9_chosen 88 = .ok (.ifCond .le 9, 3)) ∧ (decode cX9_chosen 91 = .ok (.iload 6, 2)) := by decide +kernel
theorem dX9_chosen_59 : decode cX9_chosen 59 = .ok (.invokestatic 261, 3) := bdX9_chosen_59.1
theorem dX9_chosen_62 : decode cX9_chosen 62 = .ok (.iload_n 1, 1) := bdX9_chosen_59.2.1
theorem dX9_chosen_63 : decode cX9_chosen 63 = .ok (.if_icmp .eq 6, 3) := bdX9_chosen_59.2.2.1
theorem dX9_chosen_66 : decode cX9_chosen 66 = .ok (.goto 31, 3) := bdX9_chosen_59.2.2.2.1
theorem dX9_chosen_69 : decode cX9_chosen 69 = .ok (.aload_n 0, 1) := bdX9_chosen_59.2.2.2.2.1
theorem dX9_chosen_70 : decode cX9_chosen 70 = .ok (.getfield 51, 3) := bdX9_chosen_59.2.2.2.2.2.1
theorem dX9_chosen_73 : decode cX9_chosen 73 = .ok (.aload_n 0, 1) := bdX9_chosen_59.2.2.2.2.2.2.1
theorem dX9_chosen_74 : decode cX9_chosen 74 = .ok (.getfield 12, 3) := bdX9_chosen_59.2.2.2.2.2.2.2.1
theorem dX9_chosen_77 : decode cX9_chosen 77 = .ok (.iload 6, 2) := bdX9_chosen_59.2.2.2.2.2.2.2.2.1
theorem dX9_chosen_79 : decode cX9_chosen 79 = .ok (.invokevirtual 180, 3) := bdX9_chosen_59.2.2.2.2.2.2.2.2.2.1
theorem dX9_chosen_82 : decode cX9_chosen 82 = .ok (.lstore 7, 2) := bdX9_chosen_59.2.2.2.2.2.2.2.2.2.2.1
theorem dX9_chosen_84 : decode cX9_chosen 84 = .ok (.lload 7, 2) := bdX9_chosen_59.2.2.2.2.2.2.2.2.2.2.2.1
theorem dX9_chosen_86 : decode cX9_chosen 86 = .ok (.lload_n 3, 1) := bdX9_chosen_59.2.2.2.2.2.2.2.2.2.2.2.2.1
theorem dX9_chosen_87 : decode cX9_chosen 87 = .ok (.lcmp, 1) := bdX9_chosen_59.2.2.2.2.2.2.2.2.2.2.2.2.2.1
theorem dX9_chosen_88 : decode cX9_chosen 88 = .ok (.ifCond .le 9, 3) := bdX9_chosen_59.2.2.2.2.2.2.2.2.2.2.2.2.2.2.1
theorem dX9_chosen_91 : decode cX9_chosen 91 = .ok (.iload 6, 2) := bdX9_chosen_59.2.2.2.2.2.2.2.2.2.2.2.2.2.2.2
theorem bdX9_chosen_93 : (decode cX9_chosen 93 = .ok (.istore_n 2, 1)) ∧ (decode cX9_chosen 94 = .ok (.lload 7, 2)) ∧ (decode cX9_chosen 96 = .ok (.lstore_n 3, 1)) ∧ (decode cX9_chosen 97 = .ok (.iinc 5 (-1), 3)) ∧ (decode cX9_chosen 100 = .ok (.goto (-63), 3)) ∧ (decode cX9_chosen 103 = .ok (.iload_n 2, 1)) ∧ (decode cX9_chosen 104 = .ok (.ireturn, 1)) := by decide +kernel
theorem dX9_chosen_93 : decode cX9_chosen 93 = .ok (.istore_n 2, 1) := bdX9_chosen_93.1
theorem dX9_chosen_94 : decode cX9_chosen 94 = .ok (.lload 7, 2) := bdX9_chosen_93.2.1
theorem dX9_chosen_96 : decode cX9_chosen 96 = .ok (.lstore_n 3, 1) := bdX9_chosen_93.2.2.1
theorem dX9_chosen_97 : decode cX9_chosen 97 = .ok (.iinc 5 (-1), 3) := bdX9_chosen_93.2.2.2.1
theorem dX9_chosen_100 : decode cX9_chosen 100 = .ok (.goto (-63), 3) := bdX9_chosen_93.2.2.2.2.1
theorem dX9_chosen_103 : decode cX9_chosen 103 = .ok (.iload_n 2, 1) := bdX9_chosen_93.2.2.2.2.2.1
theorem dX9_chosen_104 : decode cX9_chosen 104 = .ok (.ireturn, 1) := bdX9_chosen_93.2.2.2.2.2.2
set_option maxHeartbeats 4000000 in
set_option maxRecDepth 100000 in
theorem k_X9_chosen (l : Launch) (dC : Nat → ClassId) (dI : Nat → Nat → Nat) (h : Nat → Nat) (cs : Nat → ClassId) (sz : Nat) (I : Nat → Int32) (L : Nat → Int64) (A : Nat → Nat → Int32) (Q : Nat → Nat → Int64) (G : Nat → Nat → Nat → Int32) (J : Nat → Nat → Nat → Int64) (x : Int32) (R M : Nat) (hR : I 120 = nI R) (hR1 : 1 ≤ R) (hR5 : R ≤ 5) (hM : I 121 = nI M) (hM1 : 1 ≤ M) (hM4 : M ≤ 4) : Met l yX9_chosen wsX9_chosen ({ frames := 6, cells := 0, slots := 0, locals := 165 }) (va_Pc [.ref (h 100), .int x] (xPre (dC, dI) (wFL h cs I L A Q G J) (tysA cs) sz)) (va_Qi (fun (r : Int32) (u : CS) => ∃ a186 : Nat → Int32, ∃ j0 : Nat → Nat → Int64, ((∃ i : Nat, 1 ≤ i ∧ i ≤ M ∧ x = nI i ∧ r = (chCF (wC (G 0) R M) M x (2 ^ M - 1) (2 ^ M - 1)).1) ∨ (r = -1 ∧ ∀ i : Nat, 1 ≤ i → i ≤ M → x ≠ nI i)) ∧ u = (I, L, (va_up A 186 a186), Q, G, (va_up J 0 j0))) (xB (dC, dI) (tysA cs) (va_A (wFL h cs I L A Q G J) sz) (fun u : CS => wFL h cs u.1 u.2.1 u.2.2.1 u.2.2.2.1 u.2.2.2.2.1 u.2.2.2.2.2)) (va_A (wFL h cs I L A Q G J) sz)) 0 0 (va_A (wFL h cs I L A Q G J) sz) := by
  refine Met.ofW (cc := cX9_chosen) (maxL := 9) (ret := (some .int)) (by decide) rfl ?_
  intro p e s m args below meth c s₁ B hml hv
  obtain ⟨rfl, hsz, hP, hK, hD0, hN⟩ := hv
  have hx := B.exec
  have hb := B.bytes
  have hr := B.returns
  have hts := atoms_spec (ws := wsX9_chosen) B.pre
  have hown : s.vm.findClass RX9 = some m.cls := findClass_of_methodNamed B.named
  have hlocks := B.notSynchronized
  subst hsz
  have hD := hD0.self (sz := s.heap.size)
  generalize hAe : va_A (wFL h cs I L A Q G J) s.heap.size = A0 at hD ⊢
  have hA : ∀ q : Nat, s.heap.size ≤ q → A0 q := fun q h => by rw [← hAe]; exact Or.inr h
  have hl := lv_entry ([.ref (h 100), .int x]) (n := 9) (Nat.le_of_ble_eq_true rfl)
  rw [lg_entry_eq]
  generalize (lg_sl ([.ref (h 100), .int x]) ++ List.replicate (9 - (lg_sl ([.ref (h 100), .int x])).length) Slot.unset).toArray = ls at hl ⊢
  have hl : lv_has ls 9 [(0, .ref (h 100)), (1, .int x)] := hl
  generalize hH : s.heap = H at hP ⊢
  have hS : va_S A0 s.heap H [] := by rw [← hH]; exact va_S.rf
  have hinX9 : ∀ w ∈ wsX90, w ∈ wsX9_chosen := by decide +kernel
  have hinX3 : ∀ w ∈ wsX30, w ∈ wsX9_chosen := by decide +kernel
  have hp2 : 1 ≤ 2 ^ M := Nat.one_le_two_pow
  have hp16 : 2 ^ M ≤ 16 := Nat.pow_le_pow_right (by decide) hM4
  refine lv_iload_n hx hb dX9_chosen_0 rfl (lv_at hl 1 rfl) ?_
  refine lv_iconst (v := nI 1) hx hb dX9_chosen_1 (by decide) ?_
  refine lv_icmp_lt (tgt := 16) hx hb dX9_chosen_2 (by decide) (fun c_2_0 => ?_) (fun c_2_0 => ?_)
  · skip
    refine lv_iconst (v := (-1)) hx hb dX9_chosen_16 (by decide) ?_
    exact xr_i (v := (-1)) hx hb hr hlocks hK hS dX9_chosen_17 (I, L, (va_up A 186 (A 186)), Q, G, (va_up J 0 (J 0))) ⟨(A 186), (J 0), (Or.inr ⟨rfl, fun i a9 b9 e9 => by first | (have q9 := bad_lo (k := 1) (by omega) (by omega) (by assumption) e9; omega) | (have q9 : nI M < x := Int32.not_le.mp (by assumption); have q8 := bad_hi (k := M) (by omega) (by omega) q9 e9; omega)⟩), rfl⟩ hP hD
  · skip
    refine lv_iload_n hx hb dX9_chosen_5 rfl (lv_at hl 1 rfl) ?_
    refine lv_aload_n hx hb dX9_chosen_6 rfl (lv_at hl 0 rfl) ?_
    refine va_get (D := (dC, dI)) (ci := 9) (v := .ref (h 101)) (C := RX9) (T := TX9) (N := 9) hx hb hts hinX9 hown hK hP 0 rfl rfl 0 (by decide) (hts (.fieldLink RX9 12 "MixedWords" "mix" "LMixedWords$Mix;") (by decide +kernel)) (fun _ h9 => h9) rfl dX9_chosen_7 ?_
    refine va_get (D := (dC, dI)) (ci := 3) (v := .int (I 121)) (C := RX3) (T := TX3) (N := 6) hx hb hts hinX3 hown hK hP 10 rfl rfl 1 (by decide) (hts (.fieldLink RX9 106 "MixedWords$Mix" "width" "I") (by decide +kernel)) (fun _ h9 => h9) rfl dX9_chosen_10 ?_
    refine xt_i (y := nI M) (hM) ?_
    refine lv_icmp_le (tgt := 18) hx hb dX9_chosen_13 (by decide) (fun c_13_1 => ?_) (fun c_13_1 => ?_)
    · skip
      refine lv_iconst (v := nI 0) hx hb dX9_chosen_18 (by decide) ?_
      refine lv_istore_n (lv' := [(2, .int (nI 0)), (0, .ref (h 100)), (1, .int x)]) hx hb dX9_chosen_19 rfl hl (by decide) rfl (fun ls hl => ?_)
      refine lv_ldc2 (v := (-1)) hx hb hown (hts (.constantLong RX9 178 (-1)) (by decide +kernel)) dX9_chosen_20 ?_
      refine lv_lstore_n (lv' := [(3, .long (-1 : Int64)), (2, .int (nI 0)), (0, .ref (h 100)), (1, .int x)]) hx hb dX9_chosen_23 rfl hl (by decide) rfl (fun ls hl => ?_)
      refine lv_iconst (v := nI 1) hx hb dX9_chosen_24 (by decide) ?_
      refine lv_aload_n hx hb dX9_chosen_25 rfl (lv_at hl 2 rfl) ?_
      refine va_get (D := (dC, dI)) (ci := 9) (v := .ref (h 101)) (C := RX9) (T := TX9) (N := 9) hx hb hts hinX9 hown hK hP 0 rfl rfl 0 (by decide) (hts (.fieldLink RX9 12 "MixedWords" "mix" "LMixedWords$Mix;") (by decide +kernel)) (fun _ h9 => h9) rfl dX9_chosen_26 ?_
      refine va_get (D := (dC, dI)) (ci := 3) (v := .int (I 121)) (C := RX3) (T := TX3) (N := 6) hx hb hts hinX3 hown hK hP 10 rfl rfl 1 (by decide) (hts (.fieldLink RX9 106 "MixedWords$Mix" "width" "I") (by decide +kernel)) (fun _ h9 => h9) rfl dX9_chosen_29 ?_
      refine xt_i (y := nI M) (hM) ?_
      refine lv_ishl hx hb dX9_chosen_32 ?_
      refine xt_i (y := nI (2 ^ M)) (shl_pw hM4) ?_
      refine lv_iconst (v := nI 1) hx hb dX9_chosen_33 (by decide) ?_
      refine lv_isub hx hb dX9_chosen_34 ?_
      refine xt_i (y := nI ((2 ^ M) - 1)) (pk_sub (by omega)) ?_
      refine lv_istore (lv' := [(5, .int (nI ((2 ^ M) - 1))), (3, .long (-1 : Int64)), (2, .int (nI 0)), (0, .ref (h 100)), (1, .int x)]) hx hb dX9_chosen_35 hl (by decide) rfl (fun ls hl => ?_)
      have cut_37 : ∀ (nf : Nat) (n2 : Nat) (z2 : Int32) (z3 : Int64) (f6 : Nat → Int32) (jj : Nat → Nat → Int64), n2 < nf → (n2 ≤ 2 ^ M - 1) → (z2 = (chCF (wC (G 0) R M) M x (2 ^ M - 1) (2 ^ M - 1 - n2)).1 ∧ z3 = (chCF (wC (G 0) R M) M x (2 ^ M - 1) (2 ^ M - 1 - n2)).2) → ∀ (H : Heap) (locs : List Loc) (ls : Array Slot), va_P (dC, dI) vwCl (wFL h cs I L (va_up A 186 f6) Q G (va_up J 0 jj)) H → va_D A0 (wFL h cs I L (va_up A 186 f6) Q G (va_up J 0 jj)) → va_S A0 s.heap H locs → lv_has ls 9 [(0, .ref (h 100)), (1, .int x), (2, .int z2), (3, .long z3), (5, .int (nI n2))] → W p l e (headSpec wsX9_chosen ({ frames := 6, cells := 0, slots := 0, locals := 165 })).room s m ([.ref (h 100), .int x] : List Value).toArray below meth c H locs 0 0 (MQ below (va_Qi (fun (r : Int32) (u : CS) => ∃ a186 : Nat → Int32, ∃ j0 : Nat → Nat → Int64, ((∃ i : Nat, 1 ≤ i ∧ i ≤ M ∧ x = nI i ∧ r = (chCF (wC (G 0) R M) M x (2 ^ M - 1) (2 ^ M - 1)).1) ∨ (r = -1 ∧ ∀ i : Nat, 1 ≤ i → i ≤ M → x ≠ nI i)) ∧ u = (I, L, (va_up A 186 a186), Q, G, (va_up J 0 j0))) (xB (dC, dI) (tysA cs) A0 (fun u : CS => wFL h cs u.1 u.2.1 u.2.2.1 u.2.2.2.1 u.2.2.2.2.1 u.2.2.2.2.2)) A0) ([.ref (h 100), .int x] : List Value).toArray s 0 0 A0) (F0 m 37 ls []) := by
        intro nf
        induction nf with
        | zero => intro n2 z2 z3 f6 jj hm; exact absurd hm (Nat.not_lt_zero _)
        | succ nf ih_37 =>
          intro n2 z2 z3 f6 jj hm_37 hn37 hc37 H locs ls hP hD hS hl
          refine lv_iload hx hb dX9_chosen_37 (lv_at hl 4 rfl) ?_
          refine lv_iconst (v := nI 1) hx hb dX9_chosen_39 (by decide) ?_
          refine xn_lt (tgt := 103) hx hb dX9_chosen_40 (by decide) (by omega) (by omega) (fun c_40_2 => ?_) (fun c_40_2 => ?_)
          · skip
            refine lv_iload_n hx hb dX9_chosen_103 rfl (lv_at hl 2 rfl) ?_
            exact xr_i (v := z2) hx hb hr hlocks hK hS dX9_chosen_104 (I, L, (va_up A 186 f6), Q, G, (va_up J 0 jj)) ⟨f6, jj, (by obtain ⟨i9, a9, b9, e9⟩ := rgN (x := x) (lo := 1) (hi := M) (by omega) (by omega) (by assumption) (Int32.not_lt.mpr (by assumption)); have n0 : n2 = 0 := (by omega); rw [n0, Nat.sub_zero] at hc37; exact Or.inl ⟨i9, a9, b9, e9, hc37.1⟩), rfl⟩ hP hD
          · skip
            refine lv_iload hx hb dX9_chosen_43 (lv_at hl 4 rfl) ?_
            refine lv_aload_n hx hb dX9_chosen_45 rfl (lv_at hl 0 rfl) ?_
            refine va_get (D := (dC, dI)) (ci := 9) (v := .ref (h 101)) (C := RX9) (T := TX9) (N := 9) hx hb hts hinX9 hown hK hP 0 rfl rfl 0 (by decide) (hts (.fieldLink RX9 12 "MixedWords" "mix" "LMixedWords$Mix;") (by decide +kernel)) (fun _ h9 => h9) rfl dX9_chosen_46 ?_
            refine va_get (D := (dC, dI)) (ci := 3) (v := .int (I 121)) (C := RX3) (T := TX3) (N := 6) hx hb hts hinX3 hown hK hP 10 rfl rfl 1 (by decide) (hts (.fieldLink RX9 106 "MixedWords$Mix" "width" "I") (by decide +kernel)) (fun _ h9 => h9) rfl dX9_chosen_49 ?_
            refine xt_i (y := nI M) (hM) ?_
            refine xj_i (wc := ([] : va_W)) (wr := (wFL h cs I L (va_up A 186 f6) Q G (va_up J 0 jj))) hP hD hS hA [] [0, 1, 2, 3, 4, 5, 6, 7, 8, 9, 10, 11, 12, 13, 14, 15, 16, 17] rfl rfl (by decide +kernel) (by decide +kernel) (va_runS (As := [.int (nI n2), .int (nI M)]) (rest := []) ⟨hx, hb, hml, hown, hts⟩ (k_X9_mirror l dC dI h cs H.size I L A Q G J (nI n2) M (by first | assumption | omega)) (va_cwS 2 hts gX9_chosen_X9_mirror rfl rfl rfl (by decide +kernel) ⟨Nat.le_of_ble_eq_true rfl, Nat.le_of_ble_eq_true rfl⟩) (xpS (wc := ([] : va_W)) hP hD hK hN [] rfl (by decide) _) rfl rfl hl.1 rfl (lv_room (Nat.le_of_ble_eq_true rfl)) dX9_chosen_52 ⟨Nat.zero_le _, Nat.zero_le _⟩) (fun r_5 u_4 H locs hw hP hD hS => ?_)
            obtain ⟨hf_6, rfl⟩ := hw
            have hP : va_P (dC, dI) vwCl (wFL h cs I L (va_up A 186 f6) Q G (va_up J 0 jj)) H := hP
            have hD : va_D A0 (wFL h cs I L (va_up A 186 f6) Q G (va_up J 0 jj)) := hD
            obtain rfl := hf_6
            refine lv_istore (lv' := [(6, .int (mirF (nI n2) M)), (0, .ref (h 100)), (1, .int x), (2, .int z2), (3, .long z3), (5, .int (nI n2))]) hx hb dX9_chosen_55 hl (by decide) rfl (fun ls hl => ?_)
            refine lv_iload hx hb dX9_chosen_57 (lv_at hl 0 rfl) ?_
            refine xj_i (wc := ([] : va_W)) (wr := (wFL h cs I L (va_up A 186 f6) Q G (va_up J 0 jj))) hP hD hS hA [] [0, 1, 2, 3, 4, 5, 6, 7, 8, 9, 10, 11, 12, 13, 14, 15, 16, 17] rfl rfl (by decide +kernel) (by decide +kernel) (va_runS (As := [.int (mirF (nI n2) M)]) (rest := []) ⟨hx, hb, hml, hown, hts⟩ (k_J6_bitCount l dC dI h cs H.size I L A Q G J (mirF (nI n2) M)) (va_cwS 1 hts gX9_chosen_J6_bitCount_0f7a4 rfl rfl rfl (by decide +kernel) ⟨Nat.le_of_ble_eq_true rfl, Nat.le_of_ble_eq_true rfl⟩) (xpS (wc := ([] : va_W)) hP hD hK hN [] rfl (by decide) _) rfl rfl hl.1 rfl (lv_room (Nat.le_of_ble_eq_true rfl)) dX9_chosen_59 ⟨Nat.zero_le _, Nat.zero_le _⟩) (fun r_8 u_7 H locs hw hP hD hS => ?_)
            obtain ⟨hf_9, rfl⟩ := hw
            have hP : va_P (dC, dI) vwCl (wFL h cs I L (va_up A 186 f6) Q G (va_up J 0 jj)) H := hP
            have hD : va_D A0 (wFL h cs I L (va_up A 186 f6) Q G (va_up J 0 jj)) := hD
            obtain rfl := hf_9
            refine lv_iload_n hx hb dX9_chosen_62 rfl (lv_at hl 2 rfl) ?_
            refine lv_icmp_eq (tgt := 69) hx hb dX9_chosen_63 (by decide) (fun c_63_9 => ?_) (fun c_63_9 => ?_)
            · skip
              have hcb : bcF (mirF (nI n2) M) = x := c_63_9
              refine lv_aload_n hx hb dX9_chosen_69 rfl (lv_at hl 1 rfl) ?_
              refine va_get (D := (dC, dI)) (ci := 9) (v := .ref (h 106)) (C := RX9) (T := TX9) (N := 9) hx hb hts hinX9 hown hK hP 0 rfl rfl 5 (by decide) (hts (.fieldLink RX9 51 "MixedWords" "least" "LMixedWords$Least;") (by decide +kernel)) (fun _ h9 => h9) rfl dX9_chosen_70 ?_
              refine lv_aload_n hx hb dX9_chosen_73 rfl (lv_at hl 1 rfl) ?_
              refine va_get (D := (dC, dI)) (ci := 9) (v := .ref (h 101)) (C := RX9) (T := TX9) (N := 9) hx hb hts hinX9 hown hK hP 0 rfl rfl 0 (by decide) (hts (.fieldLink RX9 12 "MixedWords" "mix" "LMixedWords$Mix;") (by decide +kernel)) (fun _ h9 => h9) rfl dX9_chosen_74 ?_
              refine lv_iload hx hb dX9_chosen_77 (lv_at hl 0 rfl) ?_
              refine xj_l (wc := (wLm h cs I L (va_up A 186 f6) Q G (va_up J 0 jj))) (wr := [(h 100, .inr (9, [.ref (h 101), .ref (h 102), .ref (h 103), .ref (h 104), .ref (h 105), .ref (h 106), .ref (h 107), .ref (h 108), .ref (h 109)]))]) hP hD hS hA [1, 2, 3, 4, 5, 6, 7, 8, 9, 10, 11, 12, 13, 14, 15, 16, 17] [0] rfl rfl (by decide +kernel) (by decide +kernel) (va_runV (As := [.ref (h 101), .int (mirF (nI n2) M)]) (rest := []) ⟨hx, hb, hml, hown, hts⟩ (k_X2_worthOf l dC dI h cs H.size I L (va_up A 186 f6) Q G (va_up J 0 jj) (mirF (nI n2) M) R M hR (by first | assumption | omega | exact hR1) (by first | assumption | omega | exact hR5) hM (by first | assumption | omega | exact hM1) (by first | assumption | omega | exact hM4)) (cwV 2 hts gX9_chosen_X2_worthOf rfl rfl rfl (by decide +kernel) ⟨Nat.le_of_ble_eq_true rfl, Nat.le_of_ble_eq_true rfl⟩) (xpV (wc := (wLm h cs I L (va_up A 186 f6) Q G (va_up J 0 jj))) hP hD hK hN [1, 2, 3, 4, 5, 6, 7, 8, 9, 10, 11, 12, 13, 14, 15, 16, 17] rfl (by decide) 1 (ci := 2) rfl rfl _) rfl rfl hl.1 rfl (lv_room (Nat.le_of_ble_eq_true rfl)) dX9_chosen_79 ⟨Nat.zero_le _, Nat.zero_le _⟩) (fun r_12 u_11 H locs hw hP hD hS => ?_)
              obtain ⟨a186_13, j0_14, hf_15, rfl⟩ := hw
              have hP : va_P (dC, dI) vwCl (wFL h cs I L (va_up A 186 a186_13) Q G (va_up J 0 j0_14)) H := hP
              have hD : va_D A0 (wFL h cs I L (va_up A 186 a186_13) Q G (va_up J 0 j0_14)) := hD
              have hw9 : r_12 = wC (G 0) R M (mirF (nI n2) M) := hf_15
              refine lv_lstore (lv' := [(7, .long r_12), (6, .int (mirF (nI n2) M)), (0, .ref (h 100)), (1, .int x), (2, .int z2), (3, .long z3), (5, .int (nI n2))]) hx hb dX9_chosen_82 hl (by decide) rfl (fun ls hl => ?_)
              refine lv_lload hx hb dX9_chosen_84 (lv_at hl 0 rfl) ?_
              refine lv_lload_n hx hb dX9_chosen_86 rfl (lv_at hl 5 rfl) ?_
              refine xl_le (tgt := 97) hx hb dX9_chosen_87 dX9_chosen_88 (by decide) (fun c_87_15 => ?_) (fun c_87_15 => ?_)
              · skip
                have hle := c_87_15
                refine lv_iinc (v := nI (n2 - 1)) (lv' := [(5, .int (nI (n2 - 1))), (7, .long r_12), (6, .int (mirF (nI n2) M)), (0, .ref (h 100)), (1, .int x), (2, .int z2), (3, .long z3)]) hx hb dX9_chosen_97 hl (k := 6) rfl (sb_m1 (by omega)) (by decide) rfl (fun ls hl => ?_)
                refine lv_goto (tgt := 37) hx hb dX9_chosen_100 (by decide) ?_
                exact ih_37 (n2 - 1) z2 z3 a186_13 j0_14 (by omega) (by first | assumption | omega) (by first | (rw [Nat.sub_self]; exact ⟨rfl, rfl⟩) | exact ch_t (by omega) (by omega) hc37 hcb hw9 (Int64.not_le.mp hgt) | exact ch_k (by omega) (by omega) hc37 (fun q => hcb q.1) | exact ch_k (by omega) (by omega) hc37 (fun q => Int64.not_lt.mpr hle (hw9 ▸ q.2))) _ _ _ hP hD hS (lv_sub hl [3, 4, 5, 6, 0] rfl)
              · skip
                have hgt := c_87_15
                refine lv_iload hx hb dX9_chosen_91 (lv_at hl 1 rfl) ?_
                refine lv_istore_n (lv' := [(2, .int (mirF (nI n2) M)), (7, .long r_12), (6, .int (mirF (nI n2) M)), (0, .ref (h 100)), (1, .int x), (3, .long z3), (5, .int (nI n2))]) hx hb dX9_chosen_93 rfl hl (by decide) rfl (fun ls hl => ?_)
                refine lv_lload hx hb dX9_chosen_94 (lv_at hl 1 rfl) ?_
                refine lv_lstore_n (lv' := [(3, .long r_12), (2, .int (mirF (nI n2) M)), (7, .long r_12), (6, .int (mirF (nI n2) M)), (0, .ref (h 100)), (1, .int x), (5, .int (nI n2))]) hx hb dX9_chosen_96 rfl hl (by decide) rfl (fun ls hl => ?_)
                refine lv_iinc (v := nI (n2 - 1)) (lv' := [(5, .int (nI (n2 - 1))), (3, .long r_12), (2, .int (mirF (nI n2) M)), (7, .long r_12), (6, .int (mirF (nI n2) M)), (0, .ref (h 100)), (1, .int x)]) hx hb dX9_chosen_97 hl (k := 6) rfl (sb_m1 (by omega)) (by decide) rfl (fun ls hl => ?_)
                refine lv_goto (tgt := 37) hx hb dX9_chosen_100 (by decide) ?_
                exact ih_37 (n2 - 1) (mirF (nI n2) M) r_12 a186_13 j0_14 (by omega) (by first | assumption | omega) (by first | (rw [Nat.sub_self]; exact ⟨rfl, rfl⟩) | exact ch_t (by omega) (by omega) hc37 hcb hw9 (Int64.not_le.mp hgt) | exact ch_k (by omega) (by omega) hc37 (fun q => hcb q.1) | exact ch_k (by omega) (by omega) hc37 (fun q => Int64.not_lt.mpr hle (hw9 ▸ q.2))) _ _ _ hP hD hS (lv_sub hl [5, 6, 2, 1, 0] rfl)
            · skip
              have hcb : ¬ bcF (mirF (nI n2) M) = x := c_63_9
              refine lv_goto (tgt := 97) hx hb dX9_chosen_66 (by decide) ?_
              refine lv_iinc (v := nI (n2 - 1)) (lv' := [(5, .int (nI (n2 - 1))), (6, .int (mirF (nI n2) M)), (0, .ref (h 100)), (1, .int x), (2, .int z2), (3, .long z3)]) hx hb dX9_chosen_97 hl (k := 5) rfl (sb_m1 (by omega)) (by decide) rfl (fun ls hl => ?_)
              refine lv_goto (tgt := 37) hx hb dX9_chosen_100 (by decide) ?_
              exact ih_37 (n2 - 1) z2 z3 f6 jj (by omega) (by first | assumption | omega) (by first | (rw [Nat.sub_self]; exact ⟨rfl, rfl⟩) | exact ch_t (by omega) (by omega) hc37 hcb hw9 (Int64.not_le.mp hgt) | exact ch_k (by omega) (by omega) hc37 (fun q => hcb q.1) | exact ch_k (by omega) (by omega) hc37 (fun q => Int64.not_lt.mpr hle (hw9 ▸ q.2))) _ _ _ hP hD hS (lv_sub hl [2, 3, 4, 5, 0] rfl)
      exact cut_37 _ ((2 ^ M) - 1) (nI 0) (-1 : Int64) (A 186) (J 0) (Nat.lt_succ_self _) (by first | assumption | omega) (by first | (rw [Nat.sub_self]; exact ⟨rfl, rfl⟩) | exact ch_t (by omega) (by omega) hc37 hcb hw9 (Int64.not_le.mp hgt) | exact ch_k (by omega) (by omega) hc37 (fun q => hcb q.1) | exact ch_k (by omega) (by omega) hc37 (fun q => Int64.not_lt.mpr hle (hw9 ▸ q.2))) _ _ _ hP hD hS (lv_sub hl [3, 4, 2, 1, 0] rfl)
    · skip
      refine lv_iconst (v := (-1)) hx hb dX9_chosen_16 (by decide) ?_
      exact xr_i (v := (-1)) hx hb hr hlocks hK hS dX9_chosen_17 (I, L, (va_up A 186 (A 186)), Q, G, (va_up J 0 (J 0))) ⟨(A 186), (J 0), (Or.inr ⟨rfl, fun i a9 b9 e9 => by first | (have q9 := bad_lo (k := 1) (by omega) (by omega) (by assumption) e9; omega) | (have q9 : nI M < x := Int32.not_le.mp (by assumption); have q8 := bad_hi (k := M) (by omega) (by omega) q9 e9; omega)⟩), rfl⟩ hP hD
