
def byteL (w : Int64) (k : Nat) : Int64 := w >>> ((nI (8 * k)).toInt64 &&& 63) &&& 255
def okB (w : Int64) (k : Nat) : Prop := 32 ≤ byteL w k ∧ byteL w k ≤ 126
def kdec (j : Nat) : Int32 := nI j - nI 1
theorem kdec_pos {j : Nat} (h : 0 < j) : kdec j = nI (j - 1) := pk_sub h
theorem kdec_0 {j : Nat} (hj : j ≤ 8) (h : kdec j < 0) : j = 0 := by
  rcases Nat.eq_zero_or_pos j with e | e
  · exact e
  · rw [kdec_pos e] at h
    exact absurd h (nI_pos (by omega))
theorem kdec_1 {j : Nat} (h : ¬ kdec j < 0) : 0 < j := by
  rcases Nat.eq_zero_or_pos j with e | e
  · subst e
    exact absurd (by decide) h
  · exact e
theorem kdec_inc (m : Nat) : nI m + Int32.ofInt (-1) = kdec m := by
  rw [kdec, Int32.sub_eq_add_neg]
  rfl
theorem ok_all {w : Int64} {k : Nat} (h : ∀ t : Nat, t < k → okB w t) (hk : okB w k) : ∀ t : Nat, t < k + 1 → okB w t := fun t ht => by
  by_cases e : t = k
  · subst e
    exact hk
  · exact h t (by omega)
theorem tape_s {f g : Nat → Int32} {T n j t : Nat} {w : Int64} (ht : t = T + (n - j)) (hj0 : 0 < j) (hj : j ≤ n) (h1 : ∀ q : Nat, q < T → g q = f q) (h2 : ∀ i : Nat, j ≤ i → i < n → g (T + (n - 1 - i)) = (byteL w i).toInt32) :
    (∀ q : Nat, q < T → upd g t (byteL w (j - 1)).toInt32 q = f q) ∧ ∀ i : Nat, j - 1 ≤ i → i < n → upd g t (byteL w (j - 1)).toInt32 (T + (n - 1 - i)) = (byteL w i).toInt32 := by
  refine ⟨fun q hq => ?_, fun i hi hn => ?_⟩
  · rw [pk_un (by omega)]
    exact h1 q hq
  · by_cases e : i = j - 1
    · subst e
      rw [show T + (n - 1 - (j - 1)) = t by omega, pk_us]
    · rw [pk_un (by omega)]
      exact h2 i (by omega) hn

/-- j is the first place from a on that isn't a blank, or the end -/
def IsSkip (t : Nat → Int32) (T a j : Nat) : Prop := a ≤ j ∧ j ≤ T ∧ (∀ u : Nat, a ≤ u → u < j → t u = nI 32) ∧ (j < T → ¬ t j = nI 32)
def tpAt (t : Nat → Int32) (T j : Nat) : Int32 := if j < T then t j else nI 0
set_option maxRecDepth 20000 in
theorem ggX10_type_X10_in : GoodIn wsX10_type wsX10_in := goodIn_r _ [10] rfl (by decide +kernel)
set_option maxRecDepth 20000 in
theorem gX10_type_X10_in : GoodIn wsX10_type (va_wsS RX10 77 yX10_in wsX10_in) := goodIn_app (goodIn_of _ (by decide +kernel)) ggX10_type_X10_in
theorem bdX10_type_0 : (decode cX10_type 0 = .ok (.iload_n 3, 1)) ∧ (decode cX10_type 1 = .ok (.i2l, 1)) ∧ (decode cX10_type 2 = .ok (.lconst 1, 1)) ∧ (decode cX10_type 3 = .ok (.ldc2_w 108, 3)) ∧ (decode cX10_type 6 = .ok (.invokestatic 77, 3)) ∧ (decode cX10_type 9 = .ok (.ifCond .ne 5, 3)) ∧ (decode cX10_type 12 = .ok (.iconst (-1), 1)) ∧ (decode cX10_type 13 = .ok (.ireturn, 1)) ∧ (decode cX10_type 14 = .ok (.iconst 0, 1)) ∧ (decode cX10_type 15 = .ok (.istore 4, 2)) ∧ (decode cX10_type 17 = .ok (.iload 4, 2)) ∧ (decode cX10_type 19 = .ok (.iload_n 3, 1)) ∧ (decode cX10_type 20 = .ok (.if_icmp .ge 34, 3)) ∧ (decode cX10_type 23 = .ok (.lload_n 1, 1)) ∧ (decode cX10_type 24 = .ok (.bipush 8, 2)) ∧ (decode cX10_type 26 = .ok (.iload 4, 2)) := by decide +kernel
theorem dX10_type_0 : decode cX10_type 0 = .ok (.iload_n 3, 1) := bdX10_type_0.1
theorem dX10_type_1 : decode cX10_type 1 = .ok (.i2l, 1) := bdX10_type_0.2.1
theorem dX10_type_2 : decode cX10_type 2 = .ok (.lconst 1, 1) := bdX10_type_0.2.2.1
theorem dX10_type_3 : decode cX10_type 3 = .ok (.ldc2_w 108, 3) := bdX10_type_0.2.2.2.1
theorem dX10_type_6 : decode cX10_type 6 = .ok (.invokestatic 77, 3) := bdX10_type_0.2.2.2.2.1
theorem dX10_type_9 : decode cX10_type 9 = .ok (.ifCond .ne 5, 3) := bdX10_type_0.2.2.2.2.2.1
theorem dX10_type_12 : decode cX10_type 12 = .ok (.iconst (-1), 1) := bdX10_type_0.2.2.2.2.2.2.1
theorem dX10_type_13 : decode cX10_type 13 = .ok (.ireturn, 1) := bdX10_type_0.2.2.2.2.2.2.2.1
theorem dX10_type_14 : decode cX10_type 14 = .ok (.iconst 0, 1) := bdX10_type_0.2.2.2.2.2.2.2.2.1
theorem dX10_type_15 : decode cX10_type 15 = .ok (.istore 4, 2) := bdX10_type_0.2.2.2.2.2.2.2.2.2.1
theorem dX10_type_17 : decode cX10_type 17 = .ok (.iload 4, 2) := bdX10_type_0.2.2.2.2.2.2.2.2.2.2.1
theorem dX10_type_19 : decode cX10_type 19 = .ok (.iload_n 3, 1) := bdX10_type_0.2.2.2.2.2.2.2.2.2.2.2.1
theorem dX10_type_20 : decode cX10_type 20 = .ok (.if_icmp .ge 34, 3) := bdX10_type_0.2.2.2.2.2.2.2.2.2.2.2.2.1
theorem dX10_type_23 : decode cX10_type 23 = .ok (.lload_n 1, 1) := bdX10_type_0.2.2.2.2.2.2.2.2.2.2.2.2.2.1
theorem dX10_type_24 : decode cX10_type 24 = .ok (.bipush 8, 2) := bdX10_type_0.2.2.2.2.2.2.2.2.2.2.2.2.2.2.1
theorem dX10_type_26 : decode cX10_type 26 = .ok (.iload 4, 2) := bdX10_type_0.2.2.2.2.2.2.2.2.2.2.2.2.2.2.2
theorem bdX10_type_28 : (decode cX10_type 28 = .ok (.imul, 1)) ∧ (decode cX10_type 29 = .ok (.lshr, 1)) ∧ (decode cX10_type 30 = .ok (.ldc2_w 110, 3)) ∧ (decode cX10_type 33 = .ok (.land, 1)) ∧ (decode cX10_type 34 = .ok (.ldc2_w 112, 3)) ∧ (decode cX10_type 37 = .ok (.ldc2_w 114, 3)) ∧ (decode cX10_type 40 = .ok (.invokestatic 77, 3)) ∧ (decode cX10_type 43 = .ok (.ifCond .ne 5, 3)) ∧ (decode cX10_type 46 = .ok (.iconst (-1), 1)) ∧ (decode cX10_type 47 = .ok (.ireturn, 1)) ∧ (decode cX10_type 48 = .ok (.iinc 4 1, 3)) ∧ (decode cX10_type 51 = .ok (.goto (-34), 3)) ∧ (decode cX10_type 54 = .ok (.aload_n 0, 1)) ∧ (decode cX10_type 55 = .ok (.getfield 116, 3)) ∧ (decode cX10_type 58 = .ok (.iload_n 3, 1)) ∧ (decode cX10_type 59 = .ok (.iadd, 1)) := by decide +kernel
theorem dX10_type_28 : decode cX10_type 28 = .ok (.imul, 1) := bdX10_type_28.1
theorem dX10_type_29 : decode cX10_type 29 = .ok (.lshr, 1) := bdX10_type_28.2.1
theorem dX10_type_30 : decode cX10_type 30 = .ok (.ldc2_w 110, 3) := bdX10_type_28.2.2.1
theorem dX10_type_33 : decode cX10_type 33 = .ok (.land, 1) := bdX10_type_28.2.2.2.1
theorem dX10_type_34 : decode cX10_type 34 = .ok (.ldc2_w 112, 3) := bdX10_type_28.2.2.2.2.1
theorem dX10_type_37 : decode cX10_type 37 = .ok (.ldc2_w 114, 3) := bdX10_type_28.2.2.2.2.2.1
theorem dX10_type_40 : decode cX10_type 40 = .ok (.invokestatic 77, 3) := bdX10_type_28.2.2.2.2.2.2.1
theorem dX10_type_43 : decode cX10_type 43 = .ok (.ifCond .ne 5, 3) := bdX10_type_28.2.2.2.2.2.2.2.1
theorem dX10_type_46 : decode cX10_type 46 = .ok (.iconst (-1), 1) := bdX10_type_28.2.2.2.2.2.2.2.2.1
theorem dX10_type_47 : decode cX10_type 47 = .ok (.ireturn, 1) := bdX10_type_28.2.2.2.2.2.2.2.2.2.1
theorem dX10_type_48 : decode cX10_type 48 = .ok (.iinc 4 1, 3) := bdX10_type_28.2.2.2.2.2.2.2.2.2.2.1
theorem dX10_type_51 : decode cX10_type 51 = .ok (.goto (-34), 3) := bdX10_type_28.2.2.2.2.2.2.2.2.2.2.2.1
theorem dX10_type_54 : decode cX10_type 54 = .ok (.aload_n 0, 1) := bdX10_type_28.2.2.2.2.2.2.2.2.2.2.2.2.1
theorem dX10_type_55 : decode cX10_type 55 = .ok (.getfield 116, 3) := bdX10_type_28.2.2.2.2.2.2.2.2.2.2.2.2.2.1
theorem dX10_type_58 : decode cX10_type 58 = .ok (.iload_n 3, 1) := bdX10_type_28.2.2.2.2.2.2.2.2.2.2.2.2.2.2.1
theorem dX10_type_59 : decode cX10_type 59 = .ok (.iadd, 1) := bdX10_type_28.2.2.2.2.2.2.2.2.2.2.2.2.2.2.2
theorem bdX10_type_60 : (decode cX10_type 60 = .ok (.bipush 90, 2)) ∧ (decode cX10_type 62 = .ok (.if_icmp .le 6, 3)) ∧ (decode cX10_type 65 = .ok (.bipush (-3), 2)) ∧ (decode cX10_type 67 = .ok (.ireturn, 1)) ∧ (decode cX10_type 68 = .ok (.iload_n 3, 1)) ∧ (decode cX10_type 69 = .ok (.iconst 1, 1)) ∧ (decode cX10_type 70 = .ok (.isub, 1)) ∧ (decode cX10_type 71 = .ok (.istore 4, 2)) ∧ (decode cX10_type 73 = .ok (.iload 4, 2)) ∧ (decode cX10_type 75 = .ok (.ifCond .lt 40, 3)) ∧ (decode cX10_type 78 = .ok (.aload_n 0, 1)) ∧ (decode cX10_type 79 = .ok (.getfield 32, 3)) ∧ (decode cX10_type 82 = .ok (.aload_n 0, 1)) ∧ (decode cX10_type 83 = .ok (.getfield 116, 3)) ∧ (decode cX10_type 86 = .ok (.lload_n 1, 1)) ∧ (decode cX10_type 87 = .ok (.bipush 8, 2)) := by decide +kernel
theorem dX10_type_60 : decode cX10_type 60 = .ok (.bipush 90, 2) := bdX10_type_60.1
theorem dX10_type_62 : decode cX10_type 62 = .ok (.if_icmp .le 6, 3) := bdX10_type_60.2.1
theorem dX10_type_65 : decode cX10_type 65 = .ok (.bipush (-3), 2) := bdX10_type_60.2.2.1
theorem dX10_type_67 : decode cX10_type 67 = .ok (.ireturn, 1) := bdX10_type_60.2.2.2.1
theorem dX10_type_68 : decode cX10_type 68 = .ok (.iload_n 3, 1) := bdX10_type_60.2.2.2.2.1
theorem dX10_type_69 : decode cX10_type 69 = .ok (.iconst 1, 1) := bdX10_type_60.2.2.2.2.2.1
theorem dX10_type_70 : decode cX10_type 70 = .ok (.isub, 1) := bdX10_type_60.2.2.2.2.2.2.1
theorem dX10_type_71 : decode cX10_type 71 = .ok (.istore 4, 2) := bdX10_type_60.2.2.2.2.2.2.2.1
theorem dX10_type_73 : decode cX10_type 73 = .ok (.iload 4, 2) := bdX10_type_60.2.2.2.2.2.2.2.2.1
theorem dX10_type_75 : decode cX10_type 75 = .ok (.ifCond .lt 40, 3) := bdX10_type_60.2.2.2.2.2.2.2.2.2.1
theorem dX10_type_78 : decode cX10_type 78 = .ok (.aload_n 0, 1) := bdX10_type_60.2.2.2.2.2.2.2.2.2.2.1
theorem dX10_type_79 : decode cX10_type 79 = .ok (.getfield 32, 3) := bdX10_type_60.2.2.2.2.2.2.2.2.2.2.2.1
theorem dX10_type_82 : decode cX10_type 82 = .ok (.aload_n 0, 1) := bdX10_type_60.2.2.2.2.2.2.2.2.2.2.2.2.1
theorem dX10_type_83 : decode cX10_type 83 = .ok (.getfield 116, 3) := bdX10_type_60.2.2.2.2.2.2.2.2.2.2.2.2.2.1
theorem dX10_type_86 : decode cX10_type 86 = .ok (.lload_n 1, 1) := bdX10_type_60.2.2.2.2.2.2.2.2.2.2.2.2.2.2.1
theorem dX10_type_87 : decode cX10_type 87 = .ok (.bipush 8, 2) := bdX10_type_60.2.2.2.2.2.2.2.2.2.2.2.2.2.2.2
theorem bdX10_type_89 : (decode cX10_type 89 = .ok (.iload 4, 2)) ∧ (decode cX10_type 91 = .ok (.imul, 1)) ∧ (decode cX10_type 92 = .ok (.lshr, 1)) ∧ (decode cX10_type 93 = .ok (.ldc2_w 110, 3)) ∧ (decode cX10_type 96 = .ok (.land, 1)) ∧ (decode cX10_type 97 = .ok (.l2i, 1)) ∧ (decode cX10_type 98 = .ok (.iastore, 1)) ∧ (decode cX10_type 99 = .ok (.aload_n 0, 1)) ∧ (decode cX10_type 100 = .ok (.dup, 1)) ∧ (decode cX10_type 101 = .ok (.getfield 116, 3)) ∧ (decode cX10_type 104 = .ok (.iconst 1, 1)) ∧ (decode cX10_type 105 = .ok (.iadd, 1)) ∧ (decode cX10_type 106 = .ok (.putfield 116, 3)) ∧ (decode cX10_type 109 = .ok (.iinc 4 (-1), 3)) ∧ (decode cX10_type 112 = .ok (.goto (-39), 3)) ∧ (decode cX10_type 115 = .ok (.aload_n 0, 1)) := by decide +kernel
theorem dX10_type_89 : decode cX10_type 89 = .ok (.iload 4, 2) := bdX10_type_89.1
theorem dX10_type_91 : decode cX10_type 91 = .ok (.imul, 1) := bdX10_type_89.2.1
theorem dX10_type_92 : decode cX10_type 92 = .ok (.lshr, 1) := bdX10_type_89.2.2.1
theorem dX10_type_93 : decode cX10_type 93 = .ok (.ldc2_w 110, 3) := bdX10_type_89.2.2.2.1
theorem dX10_type_96 : decode cX10_type 96 = .ok (.land, 1) := bdX10_type_89.2.2.2.2.1
theorem dX10_type_97 : decode cX10_type 97 = .ok (.l2i, 1) := bdX10_type_89.2.2.2.2.2.1
theorem dX10_type_98 : decode cX10_type 98 = .ok (.iastore, 1) := bdX10_type_89.2.2.2.2.2.2.1
theorem dX10_type_99 : decode cX10_type 99 = .ok (.aload_n 0, 1) := bdX10_type_89.2.2.2.2.2.2.2.1
theorem dX10_type_100 : decode cX10_type 100 = .ok (.dup, 1) := bdX10_type_89.2.2.2.2.2.2.2.2.1
theorem dX10_type_101 : decode cX10_type 101 = .ok (.getfield 116, 3) := bdX10_type_89.2.2.2.2.2.2.2.2.2.1
theorem dX10_type_104 : decode cX10_type 104 = .ok (.iconst 1, 1) := bdX10_type_89.2.2.2.2.2.2.2.2.2.2.1
theorem dX10_type_105 : decode cX10_type 105 = .ok (.iadd, 1) := bdX10_type_89.2.2.2.2.2.2.2.2.2.2.2.1
theorem dX10_type_106 : decode cX10_type 106 = .ok (.putfield 116, 3) := bdX10_type_89.2.2.2.2.2.2.2.2.2.2.2.2.1
theorem dX10_type_109 : decode cX10_type 109 = .ok (.iinc 4 (-1), 3) := bdX10_type_89.2.2.2.2.2.2.2.2.2.2.2.2.2.1
theorem dX10_type_112 : decode cX10_type 112 = .ok (.goto (-39), 3) := bdX10_type_89.2.2.2.2.2.2.2.2.2.2.2.2.2.2.1
theorem dX10_type_115 : decode cX10_type 115 = .ok (.aload_n 0, 1) := bdX10_type_89.2.2.2.2.2.2.2.2.2.2.2.2.2.2.2
theorem dX10_type_116 : decode cX10_type 116 = .ok (.getfield 116, 3) := by decide +kernel
theorem dX10_type_119 : decode cX10_type 119 = .ok (.ireturn, 1) := by decide +kernel
set_option maxHeartbeats 4000000 in
set_option maxRecDepth 100000 in
theorem k_X10_type (l : Launch) (dC : Nat → ClassId) (dI : Nat → Nat → Nat) (h : Nat → Nat) (cs : Nat → ClassId) (sz : Nat) (I : Nat → Int32) (L : Nat → Int64) (A : Nat → Nat → Int32) (Q : Nat → Nat → Int64) (w : Int64) (x : Int32) (T : Nat) (hT : I 10 = nI T) (hT9 : T ≤ 90) : Met l yX10_type wsX10_type ({ frames := 1, cells := 0, slots := 0, locals := 25 }) (va_Pc [.ref (h 0), .long w, .int x] (xPre (dC, dI) (rW h cs I L A Q) (tysA cs) sz)) (va_Qi (fun (r : Int32) (u : RS) => ∃ x10 : Int32, ∃ f9 : Nat → Int32, ((∃ n : Nat, 1 ≤ n ∧ n ≤ 8 ∧ x = nI n ∧ r = nI (T + n) ∧ (∀ t : Nat, t < n → okB w t) ∧ T + n ≤ 90 ∧ x10 = nI (T + n) ∧ (∀ q : Nat, q < T → f9 q = A 9 q) ∧ ∀ i : Nat, i < n → f9 (T + (n - 1 - i)) = (byteL w i).toInt32) ∨ (∃ n : Nat, 1 ≤ n ∧ n ≤ 8 ∧ x = nI n ∧ r = -3 ∧ (∀ t : Nat, t < n → okB w t) ∧ 90 < T + n ∧ x10 = I 10 ∧ f9 = A 9) ∨ (r = -1 ∧ (∀ n : Nat, 1 ≤ n → n ≤ 8 → x = nI n → (∀ t : Nat, t < n → okB w t) → False) ∧ x10 = I 10 ∧ f9 = A 9)) ∧ u = ((va_up I 10 x10), L, (va_up A 9 f9), Q)) (xB (dC, dI) (tysA cs) (va_A (rW h cs I L A Q) sz) (fun u : RS => rW h cs u.1 u.2.1 u.2.2.1 u.2.2.2)) (va_A (rW h cs I L A Q) sz)) 0 0 (va_A (rW h cs I L A Q) sz) := by
  refine Met.ofW (cc := cX10_type) (maxL := 5) (ret := (some .int)) (by decide) rfl ?_
  intro p e s m args below meth c s₁ B hml hv
  obtain ⟨rfl, hsz, hP, hK, hD0, hN⟩ := hv
  have hx := B.exec
  have hb := B.bytes
  have hr := B.returns
  have hts := atoms_spec (ws := wsX10_type) B.pre
  have hown : s.vm.findClass RX10 = some m.cls := findClass_of_methodNamed B.named
  have hlocks := B.notSynchronized
  subst hsz
  have hD := hD0.self (sz := s.heap.size)
  generalize hAe : va_A (rW h cs I L A Q) s.heap.size = A0 at hD ⊢
  have hA : ∀ q : Nat, s.heap.size ≤ q → A0 q := fun q h => by rw [← hAe]; exact Or.inr h
  have hl := lv_entry ([.ref (h 0), .long w, .int x]) (n := 5) (Nat.le_of_ble_eq_true rfl)
  rw [lg_entry_eq]
  generalize (lg_sl ([.ref (h 0), .long w, .int x]) ++ List.replicate (5 - (lg_sl ([.ref (h 0), .long w, .int x])).length) Slot.unset).toArray = ls at hl ⊢
  have hl : lv_has ls 5 [(0, .ref (h 0)), (1, .long w), (3, .int x)] := hl
  generalize hH : s.heap = H at hP ⊢
  have hS : va_S A0 s.heap H [] := by rw [← hH]; exact va_S.rf
  have hinX10 : ∀ w ∈ wsX100, w ∈ wsX10_type := by decide +kernel
  refine lv_iload_n hx hb dX10_type_0 rfl (lv_at hl 2 rfl) ?_
  refine lv_i2l (v := x.toInt64) hx hb dX10_type_1 rfl ?_
  refine lv_lconst (v := 1) hx hb dX10_type_2 rfl ?_
  refine lv_ldc2 (v := 8) hx hb hown (hts (.constantLong RX10 108 (8)) (by decide +kernel)) dX10_type_3 ?_
  refine xj_i (wc := ([] : va_W)) (wr := (rW h cs I L A Q)) hP hD hS hA [] [0, 1, 2, 3, 4, 5, 6, 7, 8, 9, 10, 11, 12, 13, 14, 15, 16] rfl rfl (by decide +kernel) (by decide +kernel) (va_runS (As := [.long x.toInt64, .long (1 : Int64), .long (8 : Int64)]) (rest := []) ⟨hx, hb, hml, hown, hts⟩ (k_X10_in l dC dI h cs H.size I L A Q x.toInt64 (1 : Int64) (8 : Int64)) (va_cwS 3 hts gX10_type_X10_in rfl rfl rfl (by decide +kernel) ⟨Nat.le_of_ble_eq_true rfl, Nat.le_of_ble_eq_true rfl⟩) (xpS (wc := ([] : va_W)) hP hD hK hN [] rfl (by decide) _) rfl rfl hl.1 rfl (lv_room (Nat.le_of_ble_eq_true rfl)) dX10_type_6 ⟨Nat.zero_le _, Nat.zero_le _⟩) (fun r_2 u_1 H locs hw hP hD hS => ?_)
  obtain ⟨hf_3, rfl⟩ := hw
  have hP : va_P (dC, dI) vwCl (rW h cs I L A Q) H := hP
  have hD : va_D A0 (rW h cs I L A Q) := hD
  rcases in_N (a := 1) (b := 8) (rfl) (rfl) hf_3 with ⟨rfl, i_4, ha_5, hb_6, hx_7⟩ | ⟨rfl, hn_8⟩
  · skip
    rw [hx_7] at hl
    refine xs_neT (tgt := 14) hx hb dX10_type_9 (by decide) (by decide) ?_
    refine lv_iconst (v := nI 0) hx hb dX10_type_14 (by decide) ?_
    refine lv_istore (lv' := [(4, .int (nI 0)), (0, .ref (h 0)), (1, .long w), (3, .int (nI i_4))]) hx hb dX10_type_15 hl (by decide) rfl (fun ls hl => ?_)
    have cut_17 : ∀ (nf : Nat) (k : Nat), (i_4 - k) < nf → (k ≤ i_4) → (∀ t : Nat, t < k → okB w t) → ∀ (H : Heap) (locs : List Loc) (ls : Array Slot), va_P (dC, dI) vwCl (rW h cs I L A Q) H → va_D A0 (rW h cs I L A Q) → va_S A0 s.heap H locs → lv_has ls 5 [(0, .ref (h 0)), (1, .long w), (3, .int (nI i_4)), (4, .int (nI k))] → W p l e (headSpec wsX10_type ({ frames := 1, cells := 0, slots := 0, locals := 25 })).room s m ([.ref (h 0), .long w, .int x] : List Value).toArray below meth c H locs 0 0 (MQ below (va_Qi (fun (r : Int32) (u : RS) => ∃ x10 : Int32, ∃ f9 : Nat → Int32, ((∃ n : Nat, 1 ≤ n ∧ n ≤ 8 ∧ x = nI n ∧ r = nI (T + n) ∧ (∀ t : Nat, t < n → okB w t) ∧ T + n ≤ 90 ∧ x10 = nI (T + n) ∧ (∀ q : Nat, q < T → f9 q = A 9 q) ∧ ∀ i : Nat, i < n → f9 (T + (n - 1 - i)) = (byteL w i).toInt32) ∨ (∃ n : Nat, 1 ≤ n ∧ n ≤ 8 ∧ x = nI n ∧ r = -3 ∧ (∀ t : Nat, t < n → okB w t) ∧ 90 < T + n ∧ x10 = I 10 ∧ f9 = A 9) ∨ (r = -1 ∧ (∀ n : Nat, 1 ≤ n → n ≤ 8 → x = nI n → (∀ t : Nat, t < n → okB w t) → False) ∧ x10 = I 10 ∧ f9 = A 9)) ∧ u = ((va_up I 10 x10), L, (va_up A 9 f9), Q)) (xB (dC, dI) (tysA cs) A0 (fun u : RS => rW h cs u.1 u.2.1 u.2.2.1 u.2.2.2)) A0) ([.ref (h 0), .long w, .int x] : List Value).toArray s 0 0 A0) (F0 m 17 ls []) := by
      intro nf
      induction nf with
      | zero => intro k hm; exact absurd hm (Nat.not_lt_zero _)
      | succ nf ih_17 =>
        intro k hm_17 hkn_17 hk_17 H locs ls hP hD hS hl
        refine lv_iload hx hb dX10_type_17 (lv_at hl 3 rfl) ?_
        refine lv_iload_n hx hb dX10_type_19 rfl (lv_at hl 2 rfl) ?_
        refine xn_ge (tgt := 54) hx hb dX10_type_20 (by decide) (by omega) (by omega) (fun c_20_9 => ?_) (fun c_20_9 => ?_)
        · skip
          refine lv_aload_n hx hb dX10_type_54 rfl (lv_at hl 0 rfl) ?_
          refine va_get (D := (dC, dI)) (ci := 10) (v := .int (I 10)) (C := RX10) (T := TX10) (N := 28) hx hb hts hinX10 hown hK hP 0 rfl rfl 10 (by decide) (hts (.fieldLink RX10 116 "MixedWordsModel" "taped" "I") (by decide +kernel)) (fun _ h9 => h9) rfl dX10_type_55 ?_
          refine xt_i (y := nI T) (hT) ?_
          refine lv_iload_n hx hb dX10_type_58 rfl (lv_at hl 2 rfl) ?_
          refine lv_iadd hx hb dX10_type_59 ?_
          refine xt_i (y := nI (T + i_4)) (nI_add _ _) ?_
          refine lv_bipush (v := nI 90) hx hb dX10_type_60 (by decide) ?_
          refine xn_le (tgt := 68) hx hb dX10_type_62 (by decide) (by omega) (by omega) (fun c_62_10 => ?_) (fun c_62_10 => ?_)
          · skip
            refine lv_iload_n hx hb dX10_type_68 rfl (lv_at hl 2 rfl) ?_
            refine lv_iconst (v := nI 1) hx hb dX10_type_69 (by decide) ?_
            refine lv_isub hx hb dX10_type_70 ?_
            refine xt_i (y := nI (i_4 - 1)) (pk_sub (by omega)) ?_
            refine xt_i (y := kdec i_4) (kdec_pos (by omega)).symm ?_
            refine lv_istore (lv' := [(4, .int (kdec i_4)), (0, .ref (h 0)), (1, .long w), (3, .int (nI i_4))]) hx hb dX10_type_71 hl (by decide) rfl (fun ls hl => ?_)
            have cut_73 : ∀ (nf : Nat) (j : Nat) (t10 : Nat) (tp : Nat → Int32), j < nf → (j ≤ i_4) → (∀ t : Nat, t < i_4 → okB w t) → (t10 = T + (i_4 - j)) → (∀ q : Nat, q < T → tp q = A 9 q) → (∀ i : Nat, j ≤ i → i < i_4 → tp (T + (i_4 - 1 - i)) = (byteL w i).toInt32) → (T + i_4 ≤ 90) → ∀ (H : Heap) (locs : List Loc) (ls : Array Slot), va_P (dC, dI) vwCl (rW h cs (va_up I 10 (nI t10)) L (va_up A 9 tp) Q) H → va_D A0 (rW h cs (va_up I 10 (nI t10)) L (va_up A 9 tp) Q) → va_S A0 s.heap H locs → lv_has ls 5 [(0, .ref (h 0)), (1, .long w), (3, .int (nI i_4)), (4, .int (kdec j))] → W p l e (headSpec wsX10_type ({ frames := 1, cells := 0, slots := 0, locals := 25 })).room s m ([.ref (h 0), .long w, .int x] : List Value).toArray below meth c H locs 0 0 (MQ below (va_Qi (fun (r : Int32) (u : RS) => ∃ x10 : Int32, ∃ f9 : Nat → Int32, ((∃ n : Nat, 1 ≤ n ∧ n ≤ 8 ∧ x = nI n ∧ r = nI (T + n) ∧ (∀ t : Nat, t < n → okB w t) ∧ T + n ≤ 90 ∧ x10 = nI (T + n) ∧ (∀ q : Nat, q < T → f9 q = A 9 q) ∧ ∀ i : Nat, i < n → f9 (T + (n - 1 - i)) = (byteL w i).toInt32) ∨ (∃ n : Nat, 1 ≤ n ∧ n ≤ 8 ∧ x = nI n ∧ r = -3 ∧ (∀ t : Nat, t < n → okB w t) ∧ 90 < T + n ∧ x10 = I 10 ∧ f9 = A 9) ∨ (r = -1 ∧ (∀ n : Nat, 1 ≤ n → n ≤ 8 → x = nI n → (∀ t : Nat, t < n → okB w t) → False) ∧ x10 = I 10 ∧ f9 = A 9)) ∧ u = ((va_up I 10 x10), L, (va_up A 9 f9), Q)) (xB (dC, dI) (tysA cs) A0 (fun u : RS => rW h cs u.1 u.2.1 u.2.2.1 u.2.2.2)) A0) ([.ref (h 0), .long w, .int x] : List Value).toArray s 0 0 A0) (F0 m 73 ls []) := by
              intro nf
              induction nf with
              | zero => intro j t10 tp hm; exact absurd hm (Nat.not_lt_zero _)
              | succ nf ih_73 =>
                intro j t10 tp hm_73 hj_73 hk2_73 ht_73 hf1_73 hf2_73 hle_73 H locs ls hP hD hS hl
                refine lv_iload hx hb dX10_type_73 (lv_at hl 3 rfl) ?_
                refine lv_if_lt (tgt := 115) hx hb dX10_type_75 (by decide) (fun c_75_11 => ?_) (fun c_75_11 => ?_)
                · skip
                  have hj0 := kdec_0 (by omega) c_75_11
                  refine lv_aload_n hx hb dX10_type_115 rfl (lv_at hl 0 rfl) ?_
                  refine va_get (D := (dC, dI)) (ci := 10) (v := .int (nI t10)) (C := RX10) (T := TX10) (N := 28) hx hb hts hinX10 hown hK hP 0 rfl rfl 10 (by decide) (hts (.fieldLink RX10 116 "MixedWordsModel" "taped" "I") (by decide +kernel)) (fun _ h9 => h9) rfl dX10_type_116 ?_
                  exact xr_i (v := (nI t10)) hx hb hr hlocks hK hS dX10_type_119 ((va_up I 10 (nI t10)), L, (va_up A 9 tp), Q) ⟨(nI t10), tp, (Or.inl ⟨i_4, ha_5, hb_6, hx_7, by rw [ht_73, show j = 0 by omega]; rfl, fun t ht => hk2_73 t ht, by omega, by rw [ht_73, show j = 0 by omega]; rfl, hf1_73, fun i hi => hf2_73 i (by omega) hi⟩), rfl⟩ hP hD
                · skip
                  have hj0 := kdec_1 c_75_11
                  rw [kdec_pos hj0] at hl
                  refine lv_aload_n hx hb dX10_type_78 rfl (lv_at hl 0 rfl) ?_
                  refine va_get (D := (dC, dI)) (ci := 10) (v := .ref (h 9)) (C := RX10) (T := TX10) (N := 28) hx hb hts hinX10 hown hK hP 0 rfl rfl 9 (by decide) (hts (.fieldLink RX10 32 "MixedWordsModel" "tape" "[I") (by decide +kernel)) (fun _ h9 => h9) rfl dX10_type_79 ?_
                  refine lv_aload_n hx hb dX10_type_82 rfl (lv_at hl 0 rfl) ?_
                  refine va_get (D := (dC, dI)) (ci := 10) (v := .int (nI t10)) (C := RX10) (T := TX10) (N := 28) hx hb hts hinX10 hown hK hP 0 rfl rfl 10 (by decide) (hts (.fieldLink RX10 116 "MixedWordsModel" "taped" "I") (by decide +kernel)) (fun _ h9 => h9) rfl dX10_type_83 ?_
                  refine lv_lload_n hx hb dX10_type_86 rfl (lv_at hl 1 rfl) ?_
                  refine lv_bipush (v := nI 8) hx hb dX10_type_87 (by decide) ?_
                  refine lv_iload hx hb dX10_type_89 (lv_at hl 3 rfl) ?_
                  refine lv_imul hx hb dX10_type_91 ?_
                  refine xt_i (y := nI (8 * (j - 1))) (pk_mul _ _) ?_
                  refine lv_lshr (v := w >>> ((nI (8 * (j - 1))).toInt64 &&& 63)) hx hb dX10_type_92 rfl ?_
                  refine lv_ldc2 (v := 255) hx hb hown (hts (.constantLong RX10 110 (255)) (by decide +kernel)) dX10_type_93 ?_
                  refine lv_land hx hb dX10_type_96 ?_
                  refine lv_l2i (v := ((w >>> ((nI (8 * (j - 1))).toInt64 &&& 63)) &&& (255 : Int64)).toInt32) hx hb dX10_type_97 rfl ?_
                  refine xa_iast hx hb hK hP hD hS 5 0 rfl rfl (by omega) (by decide) dX10_type_98 (fun H locs hP hD hS => ?_)
                  have hP : va_P (dC, dI) vwCl (rW h cs (va_up I 10 (nI t10)) L (va_up A 9 (upd tp t10 (((w >>> ((nI (8 * (j - 1))).toInt64 &&& 63)) &&& (255 : Int64)).toInt32))) Q) H := hP
                  have hD : va_D A0 (rW h cs (va_up I 10 (nI t10)) L (va_up A 9 (upd tp t10 (((w >>> ((nI (8 * (j - 1))).toInt64 &&& 63)) &&& (255 : Int64)).toInt32))) Q) := hD
                  refine lv_aload_n hx hb dX10_type_99 rfl (lv_at hl 0 rfl) ?_
                  refine lv_dup hx hb dX10_type_100 rfl ?_
                  refine va_get (D := (dC, dI)) (ci := 10) (v := .int (nI t10)) (C := RX10) (T := TX10) (N := 28) hx hb hts hinX10 hown hK hP 0 rfl rfl 10 (by decide) (hts (.fieldLink RX10 116 "MixedWordsModel" "taped" "I") (by decide +kernel)) (fun _ h9 => h9) rfl dX10_type_101 ?_
                  refine lv_iconst (v := nI 1) hx hb dX10_type_104 (by decide) ?_
                  refine lv_iadd hx hb dX10_type_105 ?_
                  refine xt_i (y := nI (t10 + 1)) (nI_add _ _) ?_
                  refine va_put (D := (dC, dI)) (ci := 10) (v := .int (nI (t10 + 1))) (ty := .int) (C := RX10) (T := TX10) (N := 28) hx hb hts hinX10 tyX10 tyX10_ok nmX10 hown hK hP hD hS 0 rfl rfl 10 (by decide) (hts (.fieldLink RX10 116 "MixedWordsModel" "taped" "I") (by decide +kernel)) (fun _ h9 => h9) rfl (by decide +kernel) rfl rfl (Nat.le_of_ble_eq_true rfl) dX10_type_106 (fun H locs hP hD hS => ?_)
                  have hP : va_P (dC, dI) vwCl (rW h cs (va_up I 10 (nI (t10 + 1))) L (va_up A 9 (upd tp t10 (((w >>> ((nI (8 * (j - 1))).toInt64 &&& 63)) &&& (255 : Int64)).toInt32))) Q) H := hP
                  have hD : va_D A0 (rW h cs (va_up I 10 (nI (t10 + 1))) L (va_up A 9 (upd tp t10 (((w >>> ((nI (8 * (j - 1))).toInt64 &&& 63)) &&& (255 : Int64)).toInt32))) Q) := hD
                  refine lv_iinc (v := kdec (j - 1)) (lv' := [(4, .int (kdec (j - 1))), (0, .ref (h 0)), (1, .long w), (3, .int (nI i_4))]) hx hb dX10_type_109 hl (k := 3) rfl (kdec_inc _) (by decide) rfl (fun ls hl => ?_)
                  refine lv_goto (tgt := 73) hx hb dX10_type_112 (by decide) ?_
                  exact ih_73 (j - 1) (t10 + 1) (upd tp t10 (((w >>> ((nI (8 * (j - 1))).toInt64 &&& 63)) &&& (255 : Int64)).toInt32)) (by omega) (by first | assumption | omega) (by first | exact hk2_73 | exact (fun t ht => hk_17 t (by omega))) (by first | assumption | omega) (by first | exact (fun _ _ => rfl) | exact (tape_s ht_73 hj0 (by omega) hf1_73 hf2_73).1) (by first | (intro i h1 h2; omega) | exact (tape_s ht_73 hj0 (by omega) hf1_73 hf2_73).2) (by first | assumption | omega) _ _ _ hP hD hS (lv_sub hl [1, 2, 3, 0] rfl)
            have hP : va_P (dC, dI) vwCl (rW h cs (va_up I 10 (nI T)) L A Q) H := by rw [← hT]; exact hP
            have hD : va_D A0 (rW h cs (va_up I 10 (nI T)) L A Q) := by rw [← hT]; exact hD
            exact cut_73 _ i_4 T (A 9) (Nat.lt_succ_self _) (by first | assumption | omega) (by first | exact hk2_73 | exact (fun t ht => hk_17 t (by omega))) (by first | assumption | omega) (by first | exact (fun _ _ => rfl) | exact (tape_s ht_73 hj0 (by omega) hf1_73 hf2_73).1) (by first | (intro i h1 h2; omega) | exact (tape_s ht_73 hj0 (by omega) hf1_73 hf2_73).2) (by first | assumption | omega) _ _ _ hP hD hS (lv_sub hl [1, 2, 3, 0] rfl)
          · skip
            refine lv_bipush (v := (-3)) hx hb dX10_type_65 (by decide) ?_
            exact xr_i (v := (-3)) hx hb hr hlocks hK hS dX10_type_67 ((va_up I 10 (I 10)), L, (va_up A 9 (A 9)), Q) ⟨(I 10), (A 9), (Or.inr (Or.inl ⟨i_4, ha_5, hb_6, hx_7, rfl, fun t ht => hk_17 t (by omega), by omega, rfl, rfl⟩)), rfl⟩ hP hD
        · skip
          refine lv_lload_n hx hb dX10_type_23 rfl (lv_at hl 1 rfl) ?_
          refine lv_bipush (v := nI 8) hx hb dX10_type_24 (by decide) ?_
          refine lv_iload hx hb dX10_type_26 (lv_at hl 3 rfl) ?_
          refine lv_imul hx hb dX10_type_28 ?_
          refine xt_i (y := nI (8 * k)) (pk_mul _ _) ?_
          refine lv_lshr (v := w >>> ((nI (8 * k)).toInt64 &&& 63)) hx hb dX10_type_29 rfl ?_
          refine lv_ldc2 (v := 255) hx hb hown (hts (.constantLong RX10 110 (255)) (by decide +kernel)) dX10_type_30 ?_
          refine lv_land hx hb dX10_type_33 ?_
          refine lv_ldc2 (v := 32) hx hb hown (hts (.constantLong RX10 112 (32)) (by decide +kernel)) dX10_type_34 ?_
          refine lv_ldc2 (v := 126) hx hb hown (hts (.constantLong RX10 114 (126)) (by decide +kernel)) dX10_type_37 ?_
          refine xj_i (wc := ([] : va_W)) (wr := (rW h cs I L A Q)) hP hD hS hA [] [0, 1, 2, 3, 4, 5, 6, 7, 8, 9, 10, 11, 12, 13, 14, 15, 16] rfl rfl (by decide +kernel) (by decide +kernel) (va_runS (As := [.long ((w >>> ((nI (8 * k)).toInt64 &&& 63)) &&& (255 : Int64)), .long (32 : Int64), .long (126 : Int64)]) (rest := []) ⟨hx, hb, hml, hown, hts⟩ (k_X10_in l dC dI h cs H.size I L A Q ((w >>> ((nI (8 * k)).toInt64 &&& 63)) &&& (255 : Int64)) (32 : Int64) (126 : Int64)) (va_cwS 3 hts gX10_type_X10_in rfl rfl rfl (by decide +kernel) ⟨Nat.le_of_ble_eq_true rfl, Nat.le_of_ble_eq_true rfl⟩) (xpS (wc := ([] : va_W)) hP hD hK hN [] rfl (by decide) _) rfl rfl hl.1 rfl (lv_room (Nat.le_of_ble_eq_true rfl)) dX10_type_40 ⟨Nat.zero_le _, Nat.zero_le _⟩) (fun r_14 u_13 H locs hw hP hD hS => ?_)
          obtain ⟨hf_15, rfl⟩ := hw
          have hP : va_P (dC, dI) vwCl (rW h cs I L A Q) H := hP
          have hD : va_D A0 (rW h cs I L A Q) := hD
          by_cases hok : okB w k
          · skip
            obtain rfl : r_14 = nI 1 := by rw [hf_15]; exact if_pos hok
            refine xs_neT (tgt := 48) hx hb dX10_type_43 (by decide) (by decide) ?_
            refine lv_iinc (v := nI (k + 1)) (lv' := [(4, .int (nI (k + 1))), (0, .ref (h 0)), (1, .long w), (3, .int (nI i_4))]) hx hb dX10_type_48 hl (k := 3) rfl (nI_1 _) (by decide) rfl (fun ls hl => ?_)
            refine lv_goto (tgt := 17) hx hb dX10_type_51 (by decide) ?_
            exact ih_17 (k + 1) (by omega) (by first | assumption | omega) (by first | exact (fun t ht => absurd ht (Nat.not_lt_zero t)) | exact ok_all hk_17 hok) _ _ _ hP hD hS (lv_sub hl [1, 2, 3, 0] rfl)
          · skip
            obtain rfl : r_14 = nI 0 := by rw [hf_15]; exact if_neg hok
            refine xs_neF (tgt := 48) hx hb dX10_type_43 (by decide) (by decide) ?_
            refine lv_iconst (v := (-1)) hx hb dX10_type_46 (by decide) ?_
            exact xr_i (v := (-1)) hx hb hr hlocks hK hS dX10_type_47 ((va_up I 10 (I 10)), L, (va_up A 9 (A 9)), Q) ⟨(I 10), (A 9), (Or.inr (Or.inr ⟨rfl, fun i h1 h2 e9 g => hok (g k (by have e8 : i_4 = i := (nI_eq (by omega) (by omega)).mp (hx_7.symm.trans e9); omega)), rfl, rfl⟩)), rfl⟩ hP hD
    exact cut_17 _ 0 (Nat.lt_succ_self _) (by first | assumption | omega) (by first | exact (fun t ht => absurd ht (Nat.not_lt_zero t)) | exact ok_all hk_17 hok) _ _ _ hP hD hS (lv_sub hl [1, 2, 3, 0] rfl)
  · skip
    refine xs_neF (tgt := 14) hx hb dX10_type_9 (by decide) (by decide) ?_
    refine lv_iconst (v := (-1)) hx hb dX10_type_12 (by decide) ?_
    exact xr_i (v := (-1)) hx hb hr hlocks hK hS dX10_type_13 ((va_up I 10 (I 10)), L, (va_up A 9 (A 9)), Q) ⟨(I 10), (A 9), (Or.inr (Or.inr ⟨rfl, fun i h1 h2 e9 => absurd e9 (hn_8 i h1 h2 (by omega)), rfl, rfl⟩)), rfl⟩ hP hD
theorem bdX10_next_0 : (decode cX10_next 0 = .ok (.aload_n 0, 1)) ∧ (decode cX10_next 1 = .ok (.getfield 119, 3)) ∧ (decode cX10_next 4 = .ok (.aload_n 0, 1)) ∧ (decode cX10_next 5 = .ok (.getfield 116, 3)) ∧ (decode cX10_next 8 = .ok (.if_icmp .ge 30, 3)) ∧ (decode cX10_next 11 = .ok (.aload_n 0, 1)) ∧ (decode cX10_next 12 = .ok (.getfield 32, 3)) ∧ (decode cX10_next 15 = .ok (.aload_n 0, 1)) ∧ (decode cX10_next 16 = .ok (.getfield 119, 3)) ∧ (decode cX10_next 19 = .ok (.iaload, 1)) ∧ (decode cX10_next 20 = .ok (.bipush 32, 2)) ∧ (decode cX10_next 22 = .ok (.if_icmp .ne 16, 3)) ∧ (decode cX10_next 25 = .ok (.aload_n 0, 1)) ∧ (decode cX10_next 26 = .ok (.dup, 1)) ∧ (decode cX10_next 27 = .ok (.getfield 119, 3)) ∧ (decode cX10_next 30 = .ok (.iconst 1, 1)) := by decide +kernel
theorem dX10_next_0 : decode cX10_next 0 = .ok (.aload_n 0, 1) := bdX10_next_0.1
theorem dX10_next_1 : decode cX10_next 1 = .ok (.getfield 119, 3) := bdX10_next_0.2.1
theorem dX10_next_4 : decode cX10_next 4 = .ok (.aload_n 0, 1) := bdX10_next_0.2.2.1
theorem dX10_next_5 : decode cX10_next 5 = .ok (.getfield 116, 3) := bdX10_next_0.2.2.2.1
theorem dX10_next_8 : decode cX10_next 8 = .ok (.if_icmp .ge 30, 3) := bdX10_next_0.2.2.2.2.1
theorem dX10_next_11 : decode cX10_next 11 = .ok (.aload_n 0, 1) := bdX10_next_0.2.2.2.2.2.1
theorem dX10_next_12 : decode cX10_next 12 = .ok (.getfield 32, 3) := bdX10_next_0.2.2.2.2.2.2.1
theorem dX10_next_15 : decode cX10_next 15 = .ok (.aload_n 0, 1) := bdX10_next_0.2.2.2.2.2.2.2.1
theorem dX10_next_16 : decode cX10_next 16 = .ok (.getfield 119, 3) := bdX10_next_0.2.2.2.2.2.2.2.2.1
theorem dX10_next_19 : decode cX10_next 19 = .ok (.iaload, 1) := bdX10_next_0.2.2.2.2.2.2.2.2.2.1
theorem dX10_next_20 : decode cX10_next 20 = .ok (.bipush 32, 2) := bdX10_next_0.2.2.2.2.2.2.2.2.2.2.1
theorem dX10_next_22 : decode cX10_next 22 = .ok (.if_icmp .ne 16, 3) := bdX10_next_0.2.2.2.2.2.2.2.2.2.2.2.1
theorem dX10_next_25 : decode cX10_next 25 = .ok (.aload_n 0, 1) := bdX10_next_0.2.2.2.2.2.2.2.2.2.2.2.2.1
theorem dX10_next_26 : decode cX10_next 26 = .ok (.dup, 1) := bdX10_next_0.2.2.2.2.2.2.2.2.2.2.2.2.2.1
theorem dX10_next_27 : decode cX10_next 27 = .ok (.getfield 119, 3) := bdX10_next_0.2.2.2.2.2.2.2.2.2.2.2.2.2.2.1
theorem dX10_next_30 : decode cX10_next 30 = .ok (.iconst 1, 1) := bdX10_next_0.2.2.2.2.2.2.2.2.2.2.2.2.2.2.2
theorem bdX10_next_31 : (decode cX10_next 31 = .ok (.iadd, 1)) ∧ (decode cX10_next 32 = .ok (.putfield 119, 3)) ∧ (decode cX10_next 35 = .ok (.goto (-35), 3)) ∧ (decode cX10_next 38 = .ok (.aload_n 0, 1)) ∧ (decode cX10_next 39 = .ok (.getfield 119, 3)) ∧ (decode cX10_next 42 = .ok (.aload_n 0, 1)) ∧ (decode cX10_next 43 = .ok (.getfield 116, 3)) ∧ (decode cX10_next 46 = .ok (.if_icmp .ge 15, 3)) ∧ (decode cX10_next 49 = .ok (.aload_n 0, 1)) ∧ (decode cX10_next 50 = .ok (.getfield 32, 3)) ∧ (decode cX10_next 53 = .ok (.aload_n 0, 1)) ∧ (decode cX10_next 54 = .ok (.getfield 119, 3)) ∧ (decode cX10_next 57 = .ok (.iaload, 1)) ∧ (decode cX10_next 58 = .ok (.goto 4, 3)) ∧ (decode cX10_next 61 = .ok (.iconst 0, 1)) ∧ (decode cX10_next 62 = .ok (.ireturn, 1)) := by decide +kernel
theorem dX10_next_31 : decode cX10_next 31 = .ok (.iadd, 1) := bdX10_next_31.1
theorem dX10_next_32 : decode cX10_next 32 = .ok (.putfield 119, 3) := bdX10_next_31.2.1
theorem dX10_next_35 : decode cX10_next 35 = .ok (.goto (-35), 3) := bdX10_next_31.2.2.1
theorem dX10_next_38 : decode cX10_next 38 = .ok (.aload_n 0, 1) := bdX10_next_31.2.2.2.1
theorem dX10_next_39 : decode cX10_next 39 = .ok (.getfield 119, 3) := bdX10_next_31.2.2.2.2.1
theorem dX10_next_42 : decode cX10_next 42 = .ok (.aload_n 0, 1) := bdX10_next_31.2.2.2.2.2.1
theorem dX10_next_43 : decode cX10_next 43 = .ok (.getfield 116, 3) := bdX10_next_31.2.2.2.2.2.2.1
theorem dX10_next_46 : decode cX10_next 46 = .ok (.if_icmp .ge 15, 3) := bdX10_next_31.2.2.2.2.2.2.2.1
theorem dX10_next_49 : decode cX10_next 49 = .ok (.aload_n 0, 1) := bdX10_next_31.2.2.2.2.2.2.2.2.1
theorem dX10_next_50 : decode cX10_next 50 = .ok (.getfield 32, 3) := bdX10_next_31.2.2.2.2.2.2.2.2.2.1
theorem dX10_next_53 : decode cX10_next 53 = .ok (.aload_n 0, 1) := bdX10_next_31.2.2.2.2.2.2.2.2.2.2.1
theorem dX10_next_54 : decode cX10_next 54 = .ok (.getfield 119, 3) := bdX10_next_31.2.2.2.2.2.2.2.2.2.2.2.1
theorem dX10_next_57 : decode cX10_next 57 = .ok (.iaload, 1) := bdX10_next_31.2.2.2.2.2.2.2.2.2.2.2.2.1
theorem dX10_next_58 : decode cX10_next 58 = .ok (.goto 4, 3) := bdX10_next_31.2.2.2.2.2.2.2.2.2.2.2.2.2.1
theorem dX10_next_61 : decode cX10_next 61 = .ok (.iconst 0, 1) := bdX10_next_31.2.2.2.2.2.2.2.2.2.2.2.2.2.2.1
theorem dX10_next_62 : decode cX10_next 62 = .ok (.ireturn, 1) := bdX10_next_31.2.2.2.2.2.2.2.2.2.2.2.2.2.2.2
set_option maxHeartbeats 4000000 in
set_option maxRecDepth 100000 in
theorem k_X10_next (l : Launch) (dC : Nat → ClassId) (dI : Nat → Nat → Nat) (h : Nat → Nat) (cs : Nat → ClassId) (sz : Nat) (I : Nat → Int32) (L : Nat → Int64) (A : Nat → Nat → Int32) (Q : Nat → Nat → Int64) (T a0 : Nat) (hT : I 10 = nI T) (hT9 : T ≤ 90) (hat : I 11 = nI a0) (haT : a0 ≤ T) : Met l yX10_next wsX10_next ({ frames := 0, cells := 0, slots := 0, locals := 0 }) (va_Pc [.ref (h 0)] (xPre (dC, dI) (rW h cs I L A Q) (tysA cs) sz)) (va_Qi (fun (r : Int32) (u : RS) => ∃ x11 : Int32, (∃ j : Nat, IsSkip (A 9) T a0 j ∧ x11 = nI j ∧ r = tpAt (A 9) T j) ∧ u = ((va_up I 11 x11), L, A, Q)) (xB (dC, dI) (tysA cs) (va_A (rW h cs I L A Q) sz) (fun u : RS => rW h cs u.1 u.2.1 u.2.2.1 u.2.2.2)) (va_A (rW h cs I L A Q) sz)) 0 0 (va_A (rW h cs I L A Q) sz) := by
  refine Met.ofW (cc := cX10_next) (maxL := 1) (ret := (some .int)) (by decide) rfl ?_
  intro p e s m args below meth c s₁ B hml hv
  obtain ⟨rfl, hsz, hP, hK, hD0, hN⟩ := hv
  have hx := B.exec
  have hb := B.bytes
  have hr := B.returns
  have hts := atoms_spec (ws := wsX10_next) B.pre
  have hown : s.vm.findClass RX10 = some m.cls := findClass_of_methodNamed B.named
  have hlocks := B.notSynchronized
  subst hsz
  have hD := hD0.self (sz := s.heap.size)
  generalize hAe : va_A (rW h cs I L A Q) s.heap.size = A0 at hD ⊢
  have hA : ∀ q : Nat, s.heap.size ≤ q → A0 q := fun q h => by rw [← hAe]; exact Or.inr h
  have hl := lv_entry ([.ref (h 0)]) (n := 1) (Nat.le_of_ble_eq_true rfl)
  rw [lg_entry_eq]
  generalize (lg_sl ([.ref (h 0)]) ++ List.replicate (1 - (lg_sl ([.ref (h 0)])).length) Slot.unset).toArray = ls at hl ⊢
  have hl : lv_has ls 1 [(0, .ref (h 0))] := hl
  generalize hH : s.heap = H at hP ⊢
  have hS : va_S A0 s.heap H [] := by rw [← hH]; exact va_S.rf
  have hinX10 : ∀ w ∈ wsX100, w ∈ wsX10_next := by decide +kernel
  have cut_0 : ∀ (nf : Nat) (j : Nat), (T - j) < nf → (a0 ≤ j) → (j ≤ T) → (∀ u : Nat, a0 ≤ u → u < j → A 9 u = nI 32) → ∀ (H : Heap) (locs : List Loc) (ls : Array Slot), va_P (dC, dI) vwCl (rW h cs (va_up I 11 (nI j)) L A Q) H → va_D A0 (rW h cs (va_up I 11 (nI j)) L A Q) → va_S A0 s.heap H locs → lv_has ls 1 [(0, .ref (h 0))] → W p l e (headSpec wsX10_next ({ frames := 0, cells := 0, slots := 0, locals := 0 })).room s m ([.ref (h 0)] : List Value).toArray below meth c H locs 0 0 (MQ below (va_Qi (fun (r : Int32) (u : RS) => ∃ x11 : Int32, (∃ j : Nat, IsSkip (A 9) T a0 j ∧ x11 = nI j ∧ r = tpAt (A 9) T j) ∧ u = ((va_up I 11 x11), L, A, Q)) (xB (dC, dI) (tysA cs) A0 (fun u : RS => rW h cs u.1 u.2.1 u.2.2.1 u.2.2.2)) A0) ([.ref (h 0)] : List Value).toArray s 0 0 A0) (F0 m 0 ls []) := by
    intro nf
    induction nf with
    | zero => intro j hm; exact absurd hm (Nat.not_lt_zero _)
    | succ nf ih_0 =>
      intro j hm_0 hj_0 hjT_0 hs_0 H locs ls hP hD hS hl
      refine lv_aload_n hx hb dX10_next_0 rfl (lv_at hl 0 rfl) ?_
      refine va_get (D := (dC, dI)) (ci := 10) (v := .int (nI j)) (C := RX10) (T := TX10) (N := 28) hx hb hts hinX10 hown hK hP 0 rfl rfl 11 (by decide) (hts (.fieldLink RX10 119 "MixedWordsModel" "at" "I") (by decide +kernel)) (fun _ h9 => h9) rfl dX10_next_1 ?_
      refine lv_aload_n hx hb dX10_next_4 rfl (lv_at hl 0 rfl) ?_
      refine va_get (D := (dC, dI)) (ci := 10) (v := .int (I 10)) (C := RX10) (T := TX10) (N := 28) hx hb hts hinX10 hown hK hP 0 rfl rfl 10 (by decide) (hts (.fieldLink RX10 116 "MixedWordsModel" "taped" "I") (by decide +kernel)) (fun _ h9 => h9) rfl dX10_next_5 ?_
      refine xt_i (y := nI T) (hT) ?_
      refine xn_ge (tgt := 38) hx hb dX10_next_8 (by decide) (by omega) (by omega) (fun c_8_0 => ?_) (fun c_8_0 => ?_)
      · skip
        refine lv_aload_n hx hb dX10_next_38 rfl (lv_at hl 0 rfl) ?_
        refine va_get (D := (dC, dI)) (ci := 10) (v := .int (nI j)) (C := RX10) (T := TX10) (N := 28) hx hb hts hinX10 hown hK hP 0 rfl rfl 11 (by decide) (hts (.fieldLink RX10 119 "MixedWordsModel" "at" "I") (by decide +kernel)) (fun _ h9 => h9) rfl dX10_next_39 ?_
        refine lv_aload_n hx hb dX10_next_42 rfl (lv_at hl 0 rfl) ?_
        refine va_get (D := (dC, dI)) (ci := 10) (v := .int (I 10)) (C := RX10) (T := TX10) (N := 28) hx hb hts hinX10 hown hK hP 0 rfl rfl 10 (by decide) (hts (.fieldLink RX10 116 "MixedWordsModel" "taped" "I") (by decide +kernel)) (fun _ h9 => h9) rfl dX10_next_43 ?_
        refine xt_i (y := nI T) (hT) ?_
        refine xn_geT (tgt := 61) hx hb dX10_next_46 (by decide) (by omega) (by omega) (by omega) ?_
        refine lv_iconst (v := nI 0) hx hb dX10_next_61 (by decide) ?_
        exact xr_i (v := (nI 0)) hx hb hr hlocks hK hS dX10_next_62 ((va_up I 11 (nI j)), L, A, Q) ⟨(nI j), ⟨j, ⟨hj_0, hjT_0, hs_0, fun g => by omega⟩, rfl, by rw [tpAt, if_neg (by omega)]⟩, rfl⟩ hP hD
      · skip
        refine lv_aload_n hx hb dX10_next_11 rfl (lv_at hl 0 rfl) ?_
        refine va_get (D := (dC, dI)) (ci := 10) (v := .ref (h 9)) (C := RX10) (T := TX10) (N := 28) hx hb hts hinX10 hown hK hP 0 rfl rfl 9 (by decide) (hts (.fieldLink RX10 32 "MixedWordsModel" "tape" "[I") (by decide +kernel)) (fun _ h9 => h9) rfl dX10_next_12 ?_
        refine lv_aload_n hx hb dX10_next_15 rfl (lv_at hl 0 rfl) ?_
        refine va_get (D := (dC, dI)) (ci := 10) (v := .int (nI j)) (C := RX10) (T := TX10) (N := 28) hx hb hts hinX10 hown hK hP 0 rfl rfl 11 (by decide) (hts (.fieldLink RX10 119 "MixedWordsModel" "at" "I") (by decide +kernel)) (fun _ h9 => h9) rfl dX10_next_16 ?_
        refine xa_iald hx hb hK hP 5 0 rfl rfl (by omega) (by decide) dX10_next_19 ?_
        refine lv_bipush (v := nI 32) hx hb dX10_next_20 (by decide) ?_
        refine lv_icmp_ne (tgt := 38) hx hb dX10_next_22 (by decide) (fun c_22_2 => ?_) (fun c_22_2 => ?_)
        · skip
          refine lv_aload_n hx hb dX10_next_38 rfl (lv_at hl 0 rfl) ?_
          refine va_get (D := (dC, dI)) (ci := 10) (v := .int (nI j)) (C := RX10) (T := TX10) (N := 28) hx hb hts hinX10 hown hK hP 0 rfl rfl 11 (by decide) (hts (.fieldLink RX10 119 "MixedWordsModel" "at" "I") (by decide +kernel)) (fun _ h9 => h9) rfl dX10_next_39 ?_
          refine lv_aload_n hx hb dX10_next_42 rfl (lv_at hl 0 rfl) ?_
          refine va_get (D := (dC, dI)) (ci := 10) (v := .int (I 10)) (C := RX10) (T := TX10) (N := 28) hx hb hts hinX10 hown hK hP 0 rfl rfl 10 (by decide) (hts (.fieldLink RX10 116 "MixedWordsModel" "taped" "I") (by decide +kernel)) (fun _ h9 => h9) rfl dX10_next_43 ?_
          refine xt_i (y := nI T) (hT) ?_
          refine xn_geF (tgt := 61) hx hb dX10_next_46 (by decide) (by omega) (by omega) (by omega) ?_
          refine lv_aload_n hx hb dX10_next_49 rfl (lv_at hl 0 rfl) ?_
          refine va_get (D := (dC, dI)) (ci := 10) (v := .ref (h 9)) (C := RX10) (T := TX10) (N := 28) hx hb hts hinX10 hown hK hP 0 rfl rfl 9 (by decide) (hts (.fieldLink RX10 32 "MixedWordsModel" "tape" "[I") (by decide +kernel)) (fun _ h9 => h9) rfl dX10_next_50 ?_
          refine lv_aload_n hx hb dX10_next_53 rfl (lv_at hl 0 rfl) ?_
          refine va_get (D := (dC, dI)) (ci := 10) (v := .int (nI j)) (C := RX10) (T := TX10) (N := 28) hx hb hts hinX10 hown hK hP 0 rfl rfl 11 (by decide) (hts (.fieldLink RX10 119 "MixedWordsModel" "at" "I") (by decide +kernel)) (fun _ h9 => h9) rfl dX10_next_54 ?_
          refine xa_iald hx hb hK hP 5 0 rfl rfl (by omega) (by decide) dX10_next_57 ?_
          refine lv_goto (tgt := 62) hx hb dX10_next_58 (by decide) ?_
          exact xr_i (v := (A 9 j)) hx hb hr hlocks hK hS dX10_next_62 ((va_up I 11 (nI j)), L, A, Q) ⟨(nI j), ⟨j, ⟨hj_0, hjT_0, hs_0, fun _ => by assumption⟩, rfl, by rw [tpAt, if_pos (by omega)]⟩, rfl⟩ hP hD
        · skip
          refine lv_aload_n hx hb dX10_next_25 rfl (lv_at hl 0 rfl) ?_
          refine lv_dup hx hb dX10_next_26 rfl ?_
          refine va_get (D := (dC, dI)) (ci := 10) (v := .int (nI j)) (C := RX10) (T := TX10) (N := 28) hx hb hts hinX10 hown hK hP 0 rfl rfl 11 (by decide) (hts (.fieldLink RX10 119 "MixedWordsModel" "at" "I") (by decide +kernel)) (fun _ h9 => h9) rfl dX10_next_27 ?_
          refine lv_iconst (v := nI 1) hx hb dX10_next_30 (by decide) ?_
          refine lv_iadd hx hb dX10_next_31 ?_
          refine xt_i (y := nI (j + 1)) (nI_add _ _) ?_
          refine va_put (D := (dC, dI)) (ci := 10) (v := .int (nI (j + 1))) (ty := .int) (C := RX10) (T := TX10) (N := 28) hx hb hts hinX10 tyX10 tyX10_ok nmX10 hown hK hP hD hS 0 rfl rfl 11 (by decide) (hts (.fieldLink RX10 119 "MixedWordsModel" "at" "I") (by decide +kernel)) (fun _ h9 => h9) rfl (by decide +kernel) rfl rfl (Nat.le_of_ble_eq_true rfl) dX10_next_32 (fun H locs hP hD hS => ?_)
          have hP : va_P (dC, dI) vwCl (rW h cs (va_up I 11 (nI (j + 1))) L A Q) H := hP
          have hD : va_D A0 (rW h cs (va_up I 11 (nI (j + 1))) L A Q) := hD
          refine lv_goto (tgt := 0) hx hb dX10_next_35 (by decide) ?_
          exact ih_0 (j + 1) (by omega) (by first | assumption | omega) (by first | assumption | omega) (by first | (intro u h1 h2; omega) | (intro u h1 h2; by_cases e : u = j; (· subst e; assumption); (· exact hs_0 u h1 (by omega)))) _ _ _ hP hD hS (lv_sub hl [0] rfl)
  have hP : va_P (dC, dI) vwCl (rW h cs (va_up I 11 (nI a0)) L A Q) H := by rw [← hat]; exact hP
  have hD : va_D A0 (rW h cs (va_up I 11 (nI a0)) L A Q) := by rw [← hat]; exact hD
  exact cut_0 _ a0 (Nat.lt_succ_self _) (by first | assumption | omega) (by first | assumption | omega) (by first | (intro u h1 h2; omega) | (intro u h1 h2; by_cases e : u = j; (· subst e; assumption); (· exact hs_0 u h1 (by omega)))) _ _ _ hP hD hS (lv_sub hl [0] rfl)
theorem bdX10_fails_0 : (decode cX10_fails 0 = .ok (.aload_n 0, 1)) ∧ (decode cX10_fails 1 = .ok (.aload_n 0, 1)) ∧ (decode cX10_fails 2 = .ok (.getfield 122, 3)) ∧ (decode cX10_fails 5 = .ok (.ifCond .ge 7, 3)) ∧ (decode cX10_fails 8 = .ok (.iload_n 1, 1)) ∧ (decode cX10_fails 9 = .ok (.goto 7, 3)) ∧ (decode cX10_fails 12 = .ok (.aload_n 0, 1)) ∧ (decode cX10_fails 13 = .ok (.getfield 122, 3)) ∧ (decode cX10_fails 16 = .ok (.putfield 122, 3)) ∧ (decode cX10_fails 19 = .ok (.return_, 1)) := by decide +kernel
theorem dX10_fails_0 : decode cX10_fails 0 = .ok (.aload_n 0, 1) := bdX10_fails_0.1
theorem dX10_fails_1 : decode cX10_fails 1 = .ok (.aload_n 0, 1) := bdX10_fails_0.2.1
theorem dX10_fails_2 : decode cX10_fails 2 = .ok (.getfield 122, 3) := bdX10_fails_0.2.2.1
theorem dX10_fails_5 : decode cX10_fails 5 = .ok (.ifCond .ge 7, 3) := bdX10_fails_0.2.2.2.1
theorem dX10_fails_8 : decode cX10_fails 8 = .ok (.iload_n 1, 1) := bdX10_fails_0.2.2.2.2.1
theorem dX10_fails_9 : decode cX10_fails 9 = .ok (.goto 7, 3) := bdX10_fails_0.2.2.2.2.2.1
theorem dX10_fails_12 : decode cX10_fails 12 = .ok (.aload_n 0, 1) := bdX10_fails_0.2.2.2.2.2.2.1
theorem dX10_fails_13 : decode cX10_fails 13 = .ok (.getfield 122, 3) := bdX10_fails_0.2.2.2.2.2.2.2.1
theorem dX10_fails_16 : decode cX10_fails 16 = .ok (.putfield 122, 3) := bdX10_fails_0.2.2.2.2.2.2.2.2.1
theorem dX10_fails_19 : decode cX10_fails 19 = .ok (.return_, 1) := bdX10_fails_0.2.2.2.2.2.2.2.2.2
set_option maxHeartbeats 4000000 in
set_option maxRecDepth 100000 in
theorem k_X10_fails (l : Launch) (dC : Nat → ClassId) (dI : Nat → Nat → Nat) (h : Nat → Nat) (cs : Nat → ClassId) (sz : Nat) (I : Nat → Int32) (L : Nat → Int64) (A : Nat → Nat → Int32) (Q : Nat → Nat → Int64) (q : Nat) : Met l yX10_fails wsX10_fails ({ frames := 0, cells := 0, slots := 0, locals := 0 }) (va_Pc [.ref (h 0), .int (nI q)] (xPre (dC, dI) (rW h cs I L A Q) (tysA cs) sz)) (va_Qv (fun (u : RS) => ∃ x12 : Int32, (x12 = if I 12 < 0 then nI q else I 12) ∧ u = ((va_up I 12 x12), L, A, Q)) (xB (dC, dI) (tysA cs) (va_A (rW h cs I L A Q) sz) (fun u : RS => rW h cs u.1 u.2.1 u.2.2.1 u.2.2.2)) (va_A (rW h cs I L A Q) sz)) 0 0 (va_A (rW h cs I L A Q) sz) := by
  refine Met.ofW (cc := cX10_fails) (maxL := 2) (ret := none) (by decide) rfl ?_
  intro p e s m args below meth c s₁ B hml hv
  obtain ⟨rfl, hsz, hP, hK, hD0, hN⟩ := hv
  have hx := B.exec
  have hb := B.bytes
  have hr := B.returns
  have hts := atoms_spec (ws := wsX10_fails) B.pre
  have hown : s.vm.findClass RX10 = some m.cls := findClass_of_methodNamed B.named
  have hlocks := B.notSynchronized
  subst hsz
  have hD := hD0.self (sz := s.heap.size)
  generalize hAe : va_A (rW h cs I L A Q) s.heap.size = A0 at hD ⊢
  have hA : ∀ q : Nat, s.heap.size ≤ q → A0 q := fun q h => by rw [← hAe]; exact Or.inr h
  have hl := lv_entry ([.ref (h 0), .int (nI q)]) (n := 2) (Nat.le_of_ble_eq_true rfl)
  rw [lg_entry_eq]
  generalize (lg_sl ([.ref (h 0), .int (nI q)]) ++ List.replicate (2 - (lg_sl ([.ref (h 0), .int (nI q)])).length) Slot.unset).toArray = ls at hl ⊢
  have hl : lv_has ls 2 [(0, .ref (h 0)), (1, .int (nI q))] := hl
  generalize hH : s.heap = H at hP ⊢
  have hS : va_S A0 s.heap H [] := by rw [← hH]; exact va_S.rf
  have hinX10 : ∀ w ∈ wsX100, w ∈ wsX10_fails := by decide +kernel
  refine lv_aload_n hx hb dX10_fails_0 rfl (lv_at hl 0 rfl) ?_
  refine lv_aload_n hx hb dX10_fails_1 rfl (lv_at hl 0 rfl) ?_
  refine va_get (D := (dC, dI)) (ci := 10) (v := .int (I 12)) (C := RX10) (T := TX10) (N := 28) hx hb hts hinX10 hown hK hP 0 rfl rfl 12 (by decide) (hts (.fieldLink RX10 122 "MixedWordsModel" "wrong" "I") (by decide +kernel)) (fun _ h9 => h9) rfl dX10_fails_2 ?_
  refine lv_if_ge (tgt := 12) hx hb dX10_fails_5 (by decide) (fun c_5_0 => ?_) (fun c_5_0 => ?_)
  · skip
    refine lv_aload_n hx hb dX10_fails_12 rfl (lv_at hl 0 rfl) ?_
    refine va_get (D := (dC, dI)) (ci := 10) (v := .int (I 12)) (C := RX10) (T := TX10) (N := 28) hx hb hts hinX10 hown hK hP 0 rfl rfl 12 (by decide) (hts (.fieldLink RX10 122 "MixedWordsModel" "wrong" "I") (by decide +kernel)) (fun _ h9 => h9) rfl dX10_fails_13 ?_
    refine va_put (D := (dC, dI)) (ci := 10) (v := .int (I 12)) (ty := .int) (C := RX10) (T := TX10) (N := 28) hx hb hts hinX10 tyX10 tyX10_ok nmX10 hown hK hP hD hS 0 rfl rfl 12 (by decide) (hts (.fieldLink RX10 122 "MixedWordsModel" "wrong" "I") (by decide +kernel)) (fun _ h9 => h9) rfl (by decide +kernel) rfl rfl (Nat.le_of_ble_eq_true rfl) dX10_fails_16 (fun H locs hP hD hS => ?_)
    have hP : va_P (dC, dI) vwCl (rW h cs (va_up I 12 (I 12)) L A Q) H := hP
    have hD : va_D A0 (rW h cs (va_up I 12 (I 12)) L A Q) := hD
    exact xr_v hx hb hr hlocks hK hS dX10_fails_19 ((va_up I 12 (I 12)), L, A, Q) ⟨(I 12), (by first | rw [if_neg (Int32.not_lt.mpr (by assumption))] | rw [if_pos (Int32.not_le.mp (by assumption))]), rfl⟩ hP hD
  · skip
    refine lv_iload_n hx hb dX10_fails_8 rfl (lv_at hl 1 rfl) ?_
    refine lv_goto (tgt := 16) hx hb dX10_fails_9 (by decide) ?_
    refine va_put (D := (dC, dI)) (ci := 10) (v := .int (nI q)) (ty := .int) (C := RX10) (T := TX10) (N := 28) hx hb hts hinX10 tyX10 tyX10_ok nmX10 hown hK hP hD hS 0 rfl rfl 12 (by decide) (hts (.fieldLink RX10 122 "MixedWordsModel" "wrong" "I") (by decide +kernel)) (fun _ h9 => h9) rfl (by decide +kernel) rfl rfl (Nat.le_of_ble_eq_true rfl) dX10_fails_16 (fun H locs hP hD hS => ?_)
    have hP : va_P (dC, dI) vwCl (rW h cs (va_up I 12 (nI q)) L A Q) H := hP
    have hD : va_D A0 (rW h cs (va_up I 12 (nI q)) L A Q) := hD
    exact xr_v hx hb hr hlocks hK hS dX10_fails_19 ((va_up I 12 (nI q)), L, A, Q) ⟨(nI q), (by first | rw [if_neg (Int32.not_lt.mpr (by assumption))] | rw [if_pos (Int32.not_le.mp (by assumption))]), rfl⟩ hP hD
