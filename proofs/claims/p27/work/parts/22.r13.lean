
theorem tp_ltc {t : Nat → Int32} {T j k : Nat} (hk : 0 < k) (hk2 : k < 256) (h : tpAt t T j = nI k) : j < T := by
  rcases Nat.lt_or_ge j T with g | g
  · exact g
  · rw [tpAt, if_neg (by omega)] at h
    have := (nI_eq (by omega) (by omega)).mp h
    omega
theorem numP_le {t : Nat → Int32} {T a a2 : Nat} {w w2 v : Int32} (h : numP t T a w a2 w2 v) : a2 ≤ T := by
  obtain ⟨j1, j2, ng, -, -, h2, ⟨-, e, -⟩ | ⟨-, j3, h3, e, -⟩⟩ := h
  · rw [e]; exact h2.2.1
  · rw [e]; exact h3.2.1
/-- a row's numbers: behind n of them -/
def rowS (t : Nat → Int32) (T mo a0 : Nat) (w0 : Int32) : Nat → Nat → Int32 → (Nat → Int32) → Bool → Prop
  | 0, a, w, _, more => a = a0 ∧ w = w0 ∧ more = true
  | n + 1, a, w, vs, more => ∃ (ap : Nat) (wp : Int32) (vp : Nat → Int32), rowS t T mo a0 w0 n ap wp vp true ∧ ∃ (an : Nat) (v : Int32), numP t T ap wp an w v ∧ (∀ i : Nat, i < n → vs i = vp i) ∧ vs n = v ∧
    ((0 ≤ w ∧ more = false ∧ a = an) ∨ (¬ 0 ≤ w ∧ ∃ jn : Nat, IsSkip t T an jn ∧ ((more = true ∧ tpAt t T jn = nI 44 ∧ n + 1 < mo ∧ a = jn + 1) ∨ (more = false ∧ ¬ (tpAt t T jn = nI 44 ∧ n + 1 < mo) ∧ a = jn))))
set_option maxRecDepth 20000 in
theorem ggX10_row_X10_number : GoodIn wsX10_row wsX10_number := goodIn_r _ [9, 4, 10, 11, 12, 13, 14, 15, 16, 8, 17, 18, 19, 20, 21, 22, 23, 24, 3, 25, 26, 27, 28, 29, 30, 31, 32, 33, 34, 35, 36, 37, 38, 39, 40, 41, 42, 43, 44, 45, 46, 47, 48, 49, 50, 51, 52] rfl (by decide +kernel)
set_option maxRecDepth 20000 in
theorem gX10_row_X10_number : GoodIn wsX10_row (wsV RX10 140 RX10 yX10_number wsX10_number) := goodIn_app (goodIn_of _ (by decide +kernel)) ggX10_row_X10_number
set_option maxRecDepth 20000 in
theorem ggX10_row_X10_next : GoodIn wsX10_row wsX10_next := goodIn_r _ [17, 4, 12, 13, 25, 26, 27, 28, 29, 30, 31, 32, 33, 34, 35, 36, 37, 38, 39, 40, 41, 42, 43, 44, 45, 46, 47, 48, 49, 50, 51, 52] rfl (by decide +kernel)
set_option maxRecDepth 20000 in
theorem gX10_row_X10_next : GoodIn wsX10_row (wsV RX10 125 RX10 yX10_next wsX10_next) := goodIn_app (goodIn_of _ (by decide +kernel)) ggX10_row_X10_next
theorem bdX10_row_0 : (decode cX10_row 0 = .ok (.iconst 0, 1)) ∧ (decode cX10_row 1 = .ok (.istore_n 2, 1)) ∧ (decode cX10_row 2 = .ok (.iconst 1, 1)) ∧ (decode cX10_row 3 = .ok (.istore_n 3, 1)) ∧ (decode cX10_row 4 = .ok (.iload_n 3, 1)) ∧ (decode cX10_row 5 = .ok (.ifCond .eq 71, 3)) ∧ (decode cX10_row 8 = .ok (.aload_n 0, 1)) ∧ (decode cX10_row 9 = .ok (.getfield 35, 3)) ∧ (decode cX10_row 12 = .ok (.iconst 4, 1)) ∧ (decode cX10_row 13 = .ok (.aload_n 0, 1)) ∧ (decode cX10_row 14 = .ok (.getfield 137, 3)) ∧ (decode cX10_row 17 = .ok (.imul, 1)) ∧ (decode cX10_row 18 = .ok (.iload_n 2, 1)) ∧ (decode cX10_row 19 = .ok (.iadd, 1)) ∧ (decode cX10_row 20 = .ok (.aload_n 0, 1)) ∧ (decode cX10_row 21 = .ok (.invokevirtual 140, 3)) := by decide +kernel
theorem dX10_row_0 : decode cX10_row 0 = .ok (.iconst 0, 1) := bdX10_row_0.1
theorem dX10_row_1 : decode cX10_row 1 = .ok (.istore_n 2, 1) := bdX10_row_0.2.1
theorem dX10_row_2 : decode cX10_row 2 = .ok (.iconst 1, 1) := bdX10_row_0.2.2.1
theorem dX10_row_3 : decode cX10_row 3 = .ok (.istore_n 3, 1) := bdX10_row_0.2.2.2.1
theorem dX10_row_4 : decode cX10_row 4 = .ok (.iload_n 3, 1) := bdX10_row_0.2.2.2.2.1
theorem dX10_row_5 : decode cX10_row 5 = .ok (.ifCond .eq 71, 3) := bdX10_row_0.2.2.2.2.2.1
theorem dX10_row_8 : decode cX10_row 8 = .ok (.aload_n 0, 1) := bdX10_row_0.2.2.2.2.2.2.1
theorem dX10_row_9 : decode cX10_row 9 = .ok (.getfield 35, 3) := bdX10_row_0.2.2.2.2.2.2.2.1
theorem dX10_row_12 : decode cX10_row 12 = .ok (.iconst 4, 1) := bdX10_row_0.2.2.2.2.2.2.2.2.1
theorem dX10_row_13 : decode cX10_row 13 = .ok (.aload_n 0, 1) := bdX10_row_0.2.2.2.2.2.2.2.2.2.1
theorem dX10_row_14 : decode cX10_row 14 = .ok (.getfield 137, 3) := bdX10_row_0.2.2.2.2.2.2.2.2.2.2.1
theorem dX10_row_17 : decode cX10_row 17 = .ok (.imul, 1) := bdX10_row_0.2.2.2.2.2.2.2.2.2.2.2.1
theorem dX10_row_18 : decode cX10_row 18 = .ok (.iload_n 2, 1) := bdX10_row_0.2.2.2.2.2.2.2.2.2.2.2.2.1
theorem dX10_row_19 : decode cX10_row 19 = .ok (.iadd, 1) := bdX10_row_0.2.2.2.2.2.2.2.2.2.2.2.2.2.1
theorem dX10_row_20 : decode cX10_row 20 = .ok (.aload_n 0, 1) := bdX10_row_0.2.2.2.2.2.2.2.2.2.2.2.2.2.2.1
theorem dX10_row_21 : decode cX10_row 21 = .ok (.invokevirtual 140, 3) := bdX10_row_0.2.2.2.2.2.2.2.2.2.2.2.2.2.2.2
theorem bdX10_row_24 : (decode cX10_row 24 = .ok (.iastore, 1)) ∧ (decode cX10_row 25 = .ok (.iinc 2 1, 3)) ∧ (decode cX10_row 28 = .ok (.aload_n 0, 1)) ∧ (decode cX10_row 29 = .ok (.getfield 122, 3)) ∧ (decode cX10_row 32 = .ok (.ifCond .ge 21, 3)) ∧ (decode cX10_row 35 = .ok (.aload_n 0, 1)) ∧ (decode cX10_row 36 = .ok (.invokevirtual 125, 3)) ∧ (decode cX10_row 39 = .ok (.bipush 44, 2)) ∧ (decode cX10_row 41 = .ok (.if_icmp .ne 12, 3)) ∧ (decode cX10_row 44 = .ok (.iload_n 2, 1)) ∧ (decode cX10_row 45 = .ok (.iload_n 1, 1)) ∧ (decode cX10_row 46 = .ok (.if_icmp .ge 7, 3)) ∧ (decode cX10_row 49 = .ok (.iconst 1, 1)) ∧ (decode cX10_row 50 = .ok (.goto 4, 3)) ∧ (decode cX10_row 53 = .ok (.iconst 0, 1)) ∧ (decode cX10_row 54 = .ok (.istore_n 3, 1)) := by decide +kernel
theorem dX10_row_24 : decode cX10_row 24 = .ok (.iastore, 1) := bdX10_row_24.1
theorem dX10_row_25 : decode cX10_row 25 = .ok (.iinc 2 1, 3) := bdX10_row_24.2.1
theorem dX10_row_28 : decode cX10_row 28 = .ok (.aload_n 0, 1) := bdX10_row_24.2.2.1
theorem dX10_row_29 : decode cX10_row 29 = .ok (.getfield 122, 3) := bdX10_row_24.2.2.2.1
theorem dX10_row_32 : decode cX10_row 32 = .ok (.ifCond .ge 21, 3) := bdX10_row_24.2.2.2.2.1
theorem dX10_row_35 : decode cX10_row 35 = .ok (.aload_n 0, 1) := bdX10_row_24.2.2.2.2.2.1
theorem dX10_row_36 : decode cX10_row 36 = .ok (.invokevirtual 125, 3) := bdX10_row_24.2.2.2.2.2.2.1
theorem dX10_row_39 : decode cX10_row 39 = .ok (.bipush 44, 2) := bdX10_row_24.2.2.2.2.2.2.2.1
theorem dX10_row_41 : decode cX10_row 41 = .ok (.if_icmp .ne 12, 3) := bdX10_row_24.2.2.2.2.2.2.2.2.1
theorem dX10_row_44 : decode cX10_row 44 = .ok (.iload_n 2, 1) := bdX10_row_24.2.2.2.2.2.2.2.2.2.1
theorem dX10_row_45 : decode cX10_row 45 = .ok (.iload_n 1, 1) := bdX10_row_24.2.2.2.2.2.2.2.2.2.2.1
theorem dX10_row_46 : decode cX10_row 46 = .ok (.if_icmp .ge 7, 3) := bdX10_row_24.2.2.2.2.2.2.2.2.2.2.2.1
theorem dX10_row_49 : decode cX10_row 49 = .ok (.iconst 1, 1) := bdX10_row_24.2.2.2.2.2.2.2.2.2.2.2.2.1
theorem dX10_row_50 : decode cX10_row 50 = .ok (.goto 4, 3) := bdX10_row_24.2.2.2.2.2.2.2.2.2.2.2.2.2.1
theorem dX10_row_53 : decode cX10_row 53 = .ok (.iconst 0, 1) := bdX10_row_24.2.2.2.2.2.2.2.2.2.2.2.2.2.2.1
theorem dX10_row_54 : decode cX10_row 54 = .ok (.istore_n 3, 1) := bdX10_row_24.2.2.2.2.2.2.2.2.2.2.2.2.2.2.2
theorem bdX10_row_55 : (decode cX10_row 55 = .ok (.aload_n 0, 1)) ∧ (decode cX10_row 56 = .ok (.dup, 1)) ∧ (decode cX10_row 57 = .ok (.getfield 119, 3)) ∧ (decode cX10_row 60 = .ok (.iload_n 3, 1)) ∧ (decode cX10_row 61 = .ok (.ifCond .eq 7, 3)) ∧ (decode cX10_row 64 = .ok (.iconst 1, 1)) ∧ (decode cX10_row 65 = .ok (.goto 4, 3)) ∧ (decode cX10_row 68 = .ok (.iconst 0, 1)) ∧ (decode cX10_row 69 = .ok (.iadd, 1)) ∧ (decode cX10_row 70 = .ok (.putfield 119, 3)) ∧ (decode cX10_row 73 = .ok (.goto (-69), 3)) ∧ (decode cX10_row 76 = .ok (.iload_n 2, 1)) ∧ (decode cX10_row 77 = .ok (.ireturn, 1)) := by decide +kernel
theorem dX10_row_55 : decode cX10_row 55 = .ok (.aload_n 0, 1) := bdX10_row_55.1
theorem dX10_row_56 : decode cX10_row 56 = .ok (.dup, 1) := bdX10_row_55.2.1
theorem dX10_row_57 : decode cX10_row 57 = .ok (.getfield 119, 3) := bdX10_row_55.2.2.1
theorem dX10_row_60 : decode cX10_row 60 = .ok (.iload_n 3, 1) := bdX10_row_55.2.2.2.1
theorem dX10_row_61 : decode cX10_row 61 = .ok (.ifCond .eq 7, 3) := bdX10_row_55.2.2.2.2.1
theorem dX10_row_64 : decode cX10_row 64 = .ok (.iconst 1, 1) := bdX10_row_55.2.2.2.2.2.1
theorem dX10_row_65 : decode cX10_row 65 = .ok (.goto 4, 3) := bdX10_row_55.2.2.2.2.2.2.1
theorem dX10_row_68 : decode cX10_row 68 = .ok (.iconst 0, 1) := bdX10_row_55.2.2.2.2.2.2.2.1
theorem dX10_row_69 : decode cX10_row 69 = .ok (.iadd, 1) := bdX10_row_55.2.2.2.2.2.2.2.2.1
theorem dX10_row_70 : decode cX10_row 70 = .ok (.putfield 119, 3) := bdX10_row_55.2.2.2.2.2.2.2.2.2.1
theorem dX10_row_73 : decode cX10_row 73 = .ok (.goto (-69), 3) := bdX10_row_55.2.2.2.2.2.2.2.2.2.2.1
theorem dX10_row_76 : decode cX10_row 76 = .ok (.iload_n 2, 1) := bdX10_row_55.2.2.2.2.2.2.2.2.2.2.2.1
theorem dX10_row_77 : decode cX10_row 77 = .ok (.ireturn, 1) := bdX10_row_55.2.2.2.2.2.2.2.2.2.2.2.2
set_option maxHeartbeats 4000000 in
set_option maxRecDepth 100000 in
theorem k_X10_row (l : Launch) (dC : Nat → ClassId) (dI : Nat → Nat → Nat) (h : Nat → Nat) (cs : Nat → ClassId) (sz : Nat) (I : Nat → Int32) (L : Nat → Int64) (A : Nat → Nat → Int32) (Q : Nat → Nat → Int64) (mo T a0 rr : Nat) (hmo : 1 ≤ mo) (hmo4 : mo ≤ 4) (hT : I 10 = nI T) (hT9 : T ≤ 90) (hat : I 11 = nI a0) (haT : a0 ≤ T) (hrr : I 14 = nI rr) (hrr4 : rr ≤ 4) : Met l yX10_row wsX10_row ({ frames := 2, cells := 0, slots := 0, locals := 48 }) (va_Pc [.ref (h 0), .int (nI mo)] (xPre (dC, dI) (rW h cs I L A Q) (tysA cs) sz)) (va_Qi (fun (r : Int32) (u : RS) => ∃ x11 : Int32, ∃ x12 : Int32, ∃ f13 : Nat → Int32, (∃ n a2 : Nat, r = nI n ∧ x11 = nI a2 ∧ 1 ≤ n ∧ n ≤ mo ∧ a2 ≤ T ∧ rowS (A 9) T mo a0 (I 12) n a2 x12 (fun i => f13 (4 * rr + i)) false ∧ ∀ q : Nat, q < 4 * rr → f13 q = A 13 q) ∧ u = ((va_up (va_up I 11 x11) 12 x12), L, (va_up A 13 f13), Q)) (xB (dC, dI) (tysA cs) (va_A (rW h cs I L A Q) sz) (fun u : RS => rW h cs u.1 u.2.1 u.2.2.1 u.2.2.2)) (va_A (rW h cs I L A Q) sz)) 0 0 (va_A (rW h cs I L A Q) sz) := by
  refine Met.ofW (cc := cX10_row) (maxL := 4) (ret := (some .int)) (by decide) rfl ?_
  intro p e s m args below meth c s₁ B hml hv
  obtain ⟨rfl, hsz, hP, hK, hD0, hN⟩ := hv
  have hx := B.exec
  have hb := B.bytes
  have hr := B.returns
  have hts := atoms_spec (ws := wsX10_row) B.pre
  have hown : s.vm.findClass RX10 = some m.cls := findClass_of_methodNamed B.named
  have hlocks := B.notSynchronized
  subst hsz
  have hD := hD0.self (sz := s.heap.size)
  generalize hAe : va_A (rW h cs I L A Q) s.heap.size = A0 at hD ⊢
  have hA : ∀ q : Nat, s.heap.size ≤ q → A0 q := fun q h => by rw [← hAe]; exact Or.inr h
  have hl := lv_entry ([.ref (h 0), .int (nI mo)]) (n := 4) (Nat.le_of_ble_eq_true rfl)
  rw [lg_entry_eq]
  generalize (lg_sl ([.ref (h 0), .int (nI mo)]) ++ List.replicate (4 - (lg_sl ([.ref (h 0), .int (nI mo)])).length) Slot.unset).toArray = ls at hl ⊢
  have hl : lv_has ls 4 [(0, .ref (h 0)), (1, .int (nI mo))] := hl
  generalize hH : s.heap = H at hP ⊢
  have hS : va_S A0 s.heap H [] := by rw [← hH]; exact va_S.rf
  have hinX10 : ∀ w ∈ wsX100, w ∈ wsX10_row := by decide +kernel
  refine lv_iconst (v := nI 0) hx hb dX10_row_0 (by decide) ?_
  refine lv_istore_n (lv' := [(2, .int (nI 0)), (0, .ref (h 0)), (1, .int (nI mo))]) hx hb dX10_row_1 rfl hl (by decide) rfl (fun ls hl => ?_)
  refine lv_iconst (v := nI 1) hx hb dX10_row_2 (by decide) ?_
  refine lv_istore_n (lv' := [(3, .int (nI 1)), (2, .int (nI 0)), (0, .ref (h 0)), (1, .int (nI mo))]) hx hb dX10_row_3 rfl hl (by decide) rfl (fun ls hl => ?_)
  have cut_4 : ∀ (nf : Nat) (n2 : Nat) (m3 : Nat) (a1 : Nat) (w1 : Int32) (g : Nat → Int32), ((mo - n2) + m3) < nf → ((m3 = 1 ∧ rowS (A 9) T mo a0 (I 12) n2 a1 w1 (fun i => g (4 * rr + i)) true ∧ n2 < mo) ∨ (m3 = 0 ∧ rowS (A 9) T mo a0 (I 12) n2 a1 w1 (fun i => g (4 * rr + i)) false)) → (n2 ≤ mo) → (m3 = 0 → 1 ≤ n2) → (m3 ≤ 1) → (a1 ≤ T) → (∀ q : Nat, q < 4 * rr → g q = A 13 q) → ∀ (H : Heap) (locs : List Loc) (ls : Array Slot), va_P (dC, dI) vwCl (rW h cs (va_up (va_up I 11 (nI a1)) 12 w1) L (va_up A 13 g) Q) H → va_D A0 (rW h cs (va_up (va_up I 11 (nI a1)) 12 w1) L (va_up A 13 g) Q) → va_S A0 s.heap H locs → lv_has ls 4 [(0, .ref (h 0)), (1, .int (nI mo)), (2, .int (nI n2)), (3, .int (nI m3))] → W p l e (headSpec wsX10_row ({ frames := 2, cells := 0, slots := 0, locals := 48 })).room s m ([.ref (h 0), .int (nI mo)] : List Value).toArray below meth c H locs 0 0 (MQ below (va_Qi (fun (r : Int32) (u : RS) => ∃ x11 : Int32, ∃ x12 : Int32, ∃ f13 : Nat → Int32, (∃ n a2 : Nat, r = nI n ∧ x11 = nI a2 ∧ 1 ≤ n ∧ n ≤ mo ∧ a2 ≤ T ∧ rowS (A 9) T mo a0 (I 12) n a2 x12 (fun i => f13 (4 * rr + i)) false ∧ ∀ q : Nat, q < 4 * rr → f13 q = A 13 q) ∧ u = ((va_up (va_up I 11 x11) 12 x12), L, (va_up A 13 f13), Q)) (xB (dC, dI) (tysA cs) A0 (fun u : RS => rW h cs u.1 u.2.1 u.2.2.1 u.2.2.2)) A0) ([.ref (h 0), .int (nI mo)] : List Value).toArray s 0 0 A0) (F0 m 4 ls []) := by
    intro nf
    induction nf with
    | zero => intro n2 m3 a1 w1 g hm; exact absurd hm (Nat.not_lt_zero _)
    | succ nf ih_4 =>
      intro n2 m3 a1 w1 g hm_4 hst_4 hn_4 hn1_4 hm_4 ha_4 hk_4 H locs ls hP hD hS hl
      refine lv_iload_n hx hb dX10_row_4 rfl (lv_at hl 3 rfl) ?_
      refine xz_eq (tgt := 76) hx hb dX10_row_5 (by decide) (by omega) (fun c_5_0 => ?_) (fun c_5_0 => ?_)
      · skip
        refine lv_iload_n hx hb dX10_row_76 rfl (lv_at hl 2 rfl) ?_
        exact xr_i (v := (nI n2)) hx hb hr hlocks hK hS dX10_row_77 ((va_up (va_up I 11 (nI a1)) 12 w1), L, (va_up A 13 g), Q) ⟨(nI a1), w1, g, ⟨n2, a1, rfl, rfl, hn1_4 (by omega), hn_4, ha_4, hst_4.elim (fun q => absurd q.1 (by omega)) (fun q => q.2), hk_4⟩, rfl⟩ hP hD
      · skip
        have hn2 : n2 < mo := hst_4.elim (fun q => q.2.2) (fun q => absurd q.1 (by omega))
        refine lv_aload_n hx hb dX10_row_8 rfl (lv_at hl 0 rfl) ?_
        refine va_get (D := (dC, dI)) (ci := 10) (v := .ref (h 13)) (C := RX10) (T := TX10) (N := 28) hx hb hts hinX10 hown hK hP 0 rfl rfl 13 (by decide) (hts (.fieldLink RX10 35 "MixedWordsModel" "readAt" "[I") (by decide +kernel)) (fun _ h9 => h9) rfl dX10_row_9 ?_
        refine lv_iconst (v := nI 4) hx hb dX10_row_12 (by decide) ?_
        refine lv_aload_n hx hb dX10_row_13 rfl (lv_at hl 0 rfl) ?_
        refine va_get (D := (dC, dI)) (ci := 10) (v := .int (I 14)) (C := RX10) (T := TX10) (N := 28) hx hb hts hinX10 hown hK hP 0 rfl rfl 14 (by decide) (hts (.fieldLink RX10 137 "MixedWordsModel" "readRows" "I") (by decide +kernel)) (fun _ h9 => h9) rfl dX10_row_14 ?_
        refine xt_i (y := nI rr) (hrr) ?_
        refine lv_imul hx hb dX10_row_17 ?_
        refine xt_i (y := nI (4 * rr)) (pk_mul _ _) ?_
        refine lv_iload_n hx hb dX10_row_18 rfl (lv_at hl 2 rfl) ?_
        refine lv_iadd hx hb dX10_row_19 ?_
        refine xt_i (y := nI ((4 * rr) + n2)) (nI_add _ _) ?_
        refine lv_aload_n hx hb dX10_row_20 rfl (lv_at hl 0 rfl) ?_
        refine xj_i (wc := (rW h cs (va_up (va_up I 11 (nI a1)) 12 w1) L (va_up A 13 g) Q)) (wr := ([] : va_W)) hP hD hS hA [0, 1, 2, 3, 4, 5, 6, 7, 8, 9, 10, 11, 12, 13, 14, 15, 16] [] rfl rfl (by decide +kernel) (by decide +kernel) (va_runV (As := []) (rest := [.int (nI ((4 * rr) + n2)), .ref (h 13)]) ⟨hx, hb, hml, hown, hts⟩ (k_X10_number l dC dI h cs H.size (va_up (va_up I 11 (nI a1)) 12 w1) L (va_up A 13 g) Q T a1 hT (by first | assumption | omega | exact hT9) rfl (by first | assumption | omega | exact haT)) (cwV 0 hts gX10_row_X10_number rfl rfl rfl (by decide +kernel) ⟨Nat.le_of_ble_eq_true rfl, Nat.le_of_ble_eq_true rfl⟩) (xpV (wc := (rW h cs (va_up (va_up I 11 (nI a1)) 12 w1) L (va_up A 13 g) Q)) hP hD hK hN [0, 1, 2, 3, 4, 5, 6, 7, 8, 9, 10, 11, 12, 13, 14, 15, 16] rfl (by decide) 0 (ci := 10) rfl rfl _) rfl rfl hl.1 rfl (lv_room (Nat.le_of_ble_eq_true rfl)) dX10_row_21 ⟨Nat.zero_le _, Nat.zero_le _⟩) (fun r_3 u_2 H locs hw hP hD hS => ?_)
        obtain ⟨x11_4, x12_5, hf_6, rfl⟩ := hw
        have hP : va_P (dC, dI) vwCl (rW h cs (va_up (va_up I 11 x11_4) 12 x12_5) L (va_up A 13 g) Q) H := hP
        have hD : va_D A0 (rW h cs (va_up (va_up I 11 x11_4) 12 x12_5) L (va_up A 13 g) Q) := hD
        obtain ⟨an_7, rfl, hnum_8⟩ := hf_6
        have hnum_8T := numP_le hnum_8
        refine xa_iast hx hb hK hP hD hS 6 0 rfl rfl (by omega) (by decide) dX10_row_24 (fun H locs hP hD hS => ?_)
        have hP : va_P (dC, dI) vwCl (rW h cs (va_up (va_up I 12 x12_5) 11 (nI an_7)) L (va_up A 13 (upd g ((4 * rr) + n2) r_3)) Q) H := hP
        have hD : va_D A0 (rW h cs (va_up (va_up I 12 x12_5) 11 (nI an_7)) L (va_up A 13 (upd g ((4 * rr) + n2) r_3)) Q) := hD
        refine lv_iinc (v := nI (n2 + 1)) (lv' := [(2, .int (nI (n2 + 1))), (0, .ref (h 0)), (1, .int (nI mo)), (3, .int (nI m3))]) hx hb dX10_row_25 hl (k := 2) rfl (nI_1 _) (by decide) rfl (fun ls hl => ?_)
        refine lv_aload_n hx hb dX10_row_28 rfl (lv_at hl 1 rfl) ?_
        refine va_get (D := (dC, dI)) (ci := 10) (v := .int x12_5) (C := RX10) (T := TX10) (N := 28) hx hb hts hinX10 hown hK hP 0 rfl rfl 12 (by decide) (hts (.fieldLink RX10 122 "MixedWordsModel" "wrong" "I") (by decide +kernel)) (fun _ h9 => h9) rfl dX10_row_29 ?_
        refine lv_if_ge (tgt := 53) hx hb dX10_row_32 (by decide) (fun c_32_8 => ?_) (fun c_32_8 => ?_)
        · skip
          refine lv_iconst (v := nI 0) hx hb dX10_row_53 (by decide) ?_
          refine lv_istore_n (lv' := [(3, .int (nI 0)), (2, .int (nI (n2 + 1))), (0, .ref (h 0)), (1, .int (nI mo))]) hx hb dX10_row_54 rfl hl (by decide) rfl (fun ls hl => ?_)
          refine lv_aload_n hx hb dX10_row_55 rfl (lv_at hl 2 rfl) ?_
          refine lv_dup hx hb dX10_row_56 rfl ?_
          refine va_get (D := (dC, dI)) (ci := 10) (v := .int (nI an_7)) (C := RX10) (T := TX10) (N := 28) hx hb hts hinX10 hown hK hP 0 rfl rfl 11 (by decide) (hts (.fieldLink RX10 119 "MixedWordsModel" "at" "I") (by decide +kernel)) (fun _ h9 => h9) rfl dX10_row_57 ?_
          refine lv_iload_n hx hb dX10_row_60 rfl (lv_at hl 0 rfl) ?_
          refine xs_eqT (tgt := 68) hx hb dX10_row_61 (by decide) (by decide) ?_
          refine lv_iconst (v := nI 0) hx hb dX10_row_68 (by decide) ?_
          refine lv_iadd hx hb dX10_row_69 ?_
          refine xt_i (y := nI (an_7 + 0)) (nI_add _ _) ?_
          refine va_put (D := (dC, dI)) (ci := 10) (v := .int (nI (an_7 + 0))) (ty := .int) (C := RX10) (T := TX10) (N := 28) hx hb hts hinX10 tyX10 tyX10_ok nmX10 hown hK hP hD hS 0 rfl rfl 11 (by decide) (hts (.fieldLink RX10 119 "MixedWordsModel" "at" "I") (by decide +kernel)) (fun _ h9 => h9) rfl (by decide +kernel) rfl rfl (Nat.le_of_ble_eq_true rfl) dX10_row_70 (fun H locs hP hD hS => ?_)
          have hP : va_P (dC, dI) vwCl (rW h cs (va_up (va_up I 12 x12_5) 11 (nI (an_7 + 0))) L (va_up A 13 (upd g ((4 * rr) + n2) r_3)) Q) H := hP
          have hD : va_D A0 (rW h cs (va_up (va_up I 12 x12_5) 11 (nI (an_7 + 0))) L (va_up A 13 (upd g ((4 * rr) + n2) r_3)) Q) := hD
          refine lv_goto (tgt := 4) hx hb dX10_row_73 (by decide) ?_
          exact ih_4 (n2 + 1) 0 (an_7 + 0) x12_5 (upd g ((4 * rr) + n2) r_3) (by omega) (Or.inr ⟨rfl, ⟨a1, w1, (fun i => g (4 * rr + i)), (hst_4.elim (fun q => q.2.1) (fun q => absurd q.1 (by omega))), an_7, _, hnum_8, (fun i hi => pk_un (by omega)), pk_us, Or.inl ⟨c_32_8, rfl, rfl⟩⟩⟩) (by first | assumption | omega) (by first | assumption | omega) (by first | assumption | omega) (by first | assumption | omega) (by first | exact (fun _ _ => rfl) | exact (fun q hq => (pk_un (by omega)).trans (hk_4 q hq))) _ _ _ hP hD hS (lv_sub hl [2, 3, 1, 0] rfl)
        · skip
          refine lv_aload_n hx hb dX10_row_35 rfl (lv_at hl 1 rfl) ?_
          refine xj_i (wc := (rW h cs (va_up (va_up I 12 x12_5) 11 (nI an_7)) L (va_up A 13 (upd g ((4 * rr) + n2) r_3)) Q)) (wr := ([] : va_W)) hP hD hS hA [0, 1, 2, 3, 4, 5, 6, 7, 8, 9, 10, 11, 12, 13, 14, 15, 16] [] rfl rfl (by decide +kernel) (by decide +kernel) (va_runV (As := []) (rest := []) ⟨hx, hb, hml, hown, hts⟩ (k_X10_next l dC dI h cs H.size (va_up (va_up I 12 x12_5) 11 (nI an_7)) L (va_up A 13 (upd g ((4 * rr) + n2) r_3)) Q T an_7 hT (by first | assumption | omega | exact hT9) rfl (by first | assumption | omega | exact haT)) (cwV 0 hts gX10_row_X10_next rfl rfl rfl (by decide +kernel) ⟨Nat.le_of_ble_eq_true rfl, Nat.le_of_ble_eq_true rfl⟩) (xpV (wc := (rW h cs (va_up (va_up I 12 x12_5) 11 (nI an_7)) L (va_up A 13 (upd g ((4 * rr) + n2) r_3)) Q)) hP hD hK hN [0, 1, 2, 3, 4, 5, 6, 7, 8, 9, 10, 11, 12, 13, 14, 15, 16] rfl (by decide) 0 (ci := 10) rfl rfl _) rfl rfl hl.1 rfl (lv_room (Nat.le_of_ble_eq_true rfl)) dX10_row_36 ⟨Nat.zero_le _, Nat.zero_le _⟩) (fun r_12 u_11 H locs hw hP hD hS => ?_)
          obtain ⟨x11_13, hf_14, rfl⟩ := hw
          have hP : va_P (dC, dI) vwCl (rW h cs (va_up (va_up I 12 x12_5) 11 x11_13) L (va_up A 13 (upd g ((4 * rr) + n2) r_3)) Q) H := hP
          have hD : va_D A0 (rW h cs (va_up (va_up I 12 x12_5) 11 x11_13) L (va_up A 13 (upd g ((4 * rr) + n2) r_3)) Q) := hD
          obtain ⟨j_15, hsk_16, rfl, rfl⟩ := hf_14
          have hsk_16T := hsk_16.2.1
          refine lv_bipush (v := nI 44) hx hb dX10_row_39 (by decide) ?_
          refine lv_icmp_ne (tgt := 53) hx hb dX10_row_41 (by decide) (fun c_41_16 => ?_) (fun c_41_16 => ?_)
          · skip
            refine lv_iconst (v := nI 0) hx hb dX10_row_53 (by decide) ?_
            refine lv_istore_n (lv' := [(3, .int (nI 0)), (2, .int (nI (n2 + 1))), (0, .ref (h 0)), (1, .int (nI mo))]) hx hb dX10_row_54 rfl hl (by decide) rfl (fun ls hl => ?_)
            refine lv_aload_n hx hb dX10_row_55 rfl (lv_at hl 2 rfl) ?_
            refine lv_dup hx hb dX10_row_56 rfl ?_
            refine va_get (D := (dC, dI)) (ci := 10) (v := .int (nI j_15)) (C := RX10) (T := TX10) (N := 28) hx hb hts hinX10 hown hK hP 0 rfl rfl 11 (by decide) (hts (.fieldLink RX10 119 "MixedWordsModel" "at" "I") (by decide +kernel)) (fun _ h9 => h9) rfl dX10_row_57 ?_
            refine lv_iload_n hx hb dX10_row_60 rfl (lv_at hl 0 rfl) ?_
            refine xs_eqT (tgt := 68) hx hb dX10_row_61 (by decide) (by decide) ?_
            refine lv_iconst (v := nI 0) hx hb dX10_row_68 (by decide) ?_
            refine lv_iadd hx hb dX10_row_69 ?_
            refine xt_i (y := nI (j_15 + 0)) (nI_add _ _) ?_
            refine va_put (D := (dC, dI)) (ci := 10) (v := .int (nI (j_15 + 0))) (ty := .int) (C := RX10) (T := TX10) (N := 28) hx hb hts hinX10 tyX10 tyX10_ok nmX10 hown hK hP hD hS 0 rfl rfl 11 (by decide) (hts (.fieldLink RX10 119 "MixedWordsModel" "at" "I") (by decide +kernel)) (fun _ h9 => h9) rfl (by decide +kernel) rfl rfl (Nat.le_of_ble_eq_true rfl) dX10_row_70 (fun H locs hP hD hS => ?_)
            have hP : va_P (dC, dI) vwCl (rW h cs (va_up (va_up I 12 x12_5) 11 (nI (j_15 + 0))) L (va_up A 13 (upd g ((4 * rr) + n2) r_3)) Q) H := hP
            have hD : va_D A0 (rW h cs (va_up (va_up I 12 x12_5) 11 (nI (j_15 + 0))) L (va_up A 13 (upd g ((4 * rr) + n2) r_3)) Q) := hD
            refine lv_goto (tgt := 4) hx hb dX10_row_73 (by decide) ?_
            exact ih_4 (n2 + 1) 0 (j_15 + 0) x12_5 (upd g ((4 * rr) + n2) r_3) (by omega) (Or.inr ⟨rfl, ⟨a1, w1, (fun i => g (4 * rr + i)), (hst_4.elim (fun q => q.2.1) (fun q => absurd q.1 (by omega))), an_7, _, hnum_8, (fun i hi => pk_un (by omega)), pk_us, Or.inr ⟨c_32_8, j_15, hsk_16, Or.inr ⟨rfl, fun q => c_41_16 q.1, rfl⟩⟩⟩⟩) (by first | assumption | omega) (by first | assumption | omega) (by first | assumption | omega) (by first | assumption | omega) (by first | exact (fun _ _ => rfl) | exact (fun q hq => (pk_un (by omega)).trans (hk_4 q hq))) _ _ _ hP hD hS (lv_sub hl [2, 3, 1, 0] rfl)
          · skip
            have hcT := tp_ltc (by decide) (by decide) c_41_16
            refine lv_iload_n hx hb dX10_row_44 rfl (lv_at hl 0 rfl) ?_
            refine lv_iload_n hx hb dX10_row_45 rfl (lv_at hl 2 rfl) ?_
            refine xn_ge (tgt := 53) hx hb dX10_row_46 (by decide) (by omega) (by omega) (fun c_46_18 => ?_) (fun c_46_18 => ?_)
            · skip
              refine lv_iconst (v := nI 0) hx hb dX10_row_53 (by decide) ?_
              refine lv_istore_n (lv' := [(3, .int (nI 0)), (2, .int (nI (n2 + 1))), (0, .ref (h 0)), (1, .int (nI mo))]) hx hb dX10_row_54 rfl hl (by decide) rfl (fun ls hl => ?_)
              refine lv_aload_n hx hb dX10_row_55 rfl (lv_at hl 2 rfl) ?_
              refine lv_dup hx hb dX10_row_56 rfl ?_
              refine va_get (D := (dC, dI)) (ci := 10) (v := .int (nI j_15)) (C := RX10) (T := TX10) (N := 28) hx hb hts hinX10 hown hK hP 0 rfl rfl 11 (by decide) (hts (.fieldLink RX10 119 "MixedWordsModel" "at" "I") (by decide +kernel)) (fun _ h9 => h9) rfl dX10_row_57 ?_
              refine lv_iload_n hx hb dX10_row_60 rfl (lv_at hl 0 rfl) ?_
              refine xs_eqT (tgt := 68) hx hb dX10_row_61 (by decide) (by decide) ?_
              refine lv_iconst (v := nI 0) hx hb dX10_row_68 (by decide) ?_
              refine lv_iadd hx hb dX10_row_69 ?_
              refine xt_i (y := nI (j_15 + 0)) (nI_add _ _) ?_
              refine va_put (D := (dC, dI)) (ci := 10) (v := .int (nI (j_15 + 0))) (ty := .int) (C := RX10) (T := TX10) (N := 28) hx hb hts hinX10 tyX10 tyX10_ok nmX10 hown hK hP hD hS 0 rfl rfl 11 (by decide) (hts (.fieldLink RX10 119 "MixedWordsModel" "at" "I") (by decide +kernel)) (fun _ h9 => h9) rfl (by decide +kernel) rfl rfl (Nat.le_of_ble_eq_true rfl) dX10_row_70 (fun H locs hP hD hS => ?_)
              have hP : va_P (dC, dI) vwCl (rW h cs (va_up (va_up I 12 x12_5) 11 (nI (j_15 + 0))) L (va_up A 13 (upd g ((4 * rr) + n2) r_3)) Q) H := hP
              have hD : va_D A0 (rW h cs (va_up (va_up I 12 x12_5) 11 (nI (j_15 + 0))) L (va_up A 13 (upd g ((4 * rr) + n2) r_3)) Q) := hD
              refine lv_goto (tgt := 4) hx hb dX10_row_73 (by decide) ?_
              exact ih_4 (n2 + 1) 0 (j_15 + 0) x12_5 (upd g ((4 * rr) + n2) r_3) (by omega) (Or.inr ⟨rfl, ⟨a1, w1, (fun i => g (4 * rr + i)), (hst_4.elim (fun q => q.2.1) (fun q => absurd q.1 (by omega))), an_7, _, hnum_8, (fun i hi => pk_un (by omega)), pk_us, Or.inr ⟨c_32_8, j_15, hsk_16, Or.inr ⟨rfl, fun q => by omega, rfl⟩⟩⟩⟩) (by first | assumption | omega) (by first | assumption | omega) (by first | assumption | omega) (by first | assumption | omega) (by first | exact (fun _ _ => rfl) | exact (fun q hq => (pk_un (by omega)).trans (hk_4 q hq))) _ _ _ hP hD hS (lv_sub hl [2, 3, 1, 0] rfl)
            · skip
              refine lv_iconst (v := nI 1) hx hb dX10_row_49 (by decide) ?_
              refine lv_goto (tgt := 54) hx hb dX10_row_50 (by decide) ?_
              refine lv_istore_n (lv' := [(3, .int (nI 1)), (2, .int (nI (n2 + 1))), (0, .ref (h 0)), (1, .int (nI mo))]) hx hb dX10_row_54 rfl hl (by decide) rfl (fun ls hl => ?_)
              refine lv_aload_n hx hb dX10_row_55 rfl (lv_at hl 2 rfl) ?_
              refine lv_dup hx hb dX10_row_56 rfl ?_
              refine va_get (D := (dC, dI)) (ci := 10) (v := .int (nI j_15)) (C := RX10) (T := TX10) (N := 28) hx hb hts hinX10 hown hK hP 0 rfl rfl 11 (by decide) (hts (.fieldLink RX10 119 "MixedWordsModel" "at" "I") (by decide +kernel)) (fun _ h9 => h9) rfl dX10_row_57 ?_
              refine lv_iload_n hx hb dX10_row_60 rfl (lv_at hl 0 rfl) ?_
              refine xs_eqF (tgt := 68) hx hb dX10_row_61 (by decide) (by decide) ?_
              refine lv_iconst (v := nI 1) hx hb dX10_row_64 (by decide) ?_
              refine lv_goto (tgt := 69) hx hb dX10_row_65 (by decide) ?_
              refine lv_iadd hx hb dX10_row_69 ?_
              refine xt_i (y := nI (j_15 + 1)) (nI_add _ _) ?_
              refine va_put (D := (dC, dI)) (ci := 10) (v := .int (nI (j_15 + 1))) (ty := .int) (C := RX10) (T := TX10) (N := 28) hx hb hts hinX10 tyX10 tyX10_ok nmX10 hown hK hP hD hS 0 rfl rfl 11 (by decide) (hts (.fieldLink RX10 119 "MixedWordsModel" "at" "I") (by decide +kernel)) (fun _ h9 => h9) rfl (by decide +kernel) rfl rfl (Nat.le_of_ble_eq_true rfl) dX10_row_70 (fun H locs hP hD hS => ?_)
              have hP : va_P (dC, dI) vwCl (rW h cs (va_up (va_up I 12 x12_5) 11 (nI (j_15 + 1))) L (va_up A 13 (upd g ((4 * rr) + n2) r_3)) Q) H := hP
              have hD : va_D A0 (rW h cs (va_up (va_up I 12 x12_5) 11 (nI (j_15 + 1))) L (va_up A 13 (upd g ((4 * rr) + n2) r_3)) Q) := hD
              refine lv_goto (tgt := 4) hx hb dX10_row_73 (by decide) ?_
              exact ih_4 (n2 + 1) 1 (j_15 + 1) x12_5 (upd g ((4 * rr) + n2) r_3) (by omega) (Or.inl ⟨rfl, ⟨a1, w1, (fun i => g (4 * rr + i)), (hst_4.elim (fun q => q.2.1) (fun q => absurd q.1 (by omega))), an_7, _, hnum_8, (fun i hi => pk_un (by omega)), pk_us, Or.inr ⟨c_32_8, j_15, hsk_16, Or.inl ⟨rfl, c_41_16, by omega, rfl⟩⟩⟩, by omega⟩) (by first | assumption | omega) (by first | assumption | omega) (by first | assumption | omega) (by first | assumption | omega) (by first | exact (fun _ _ => rfl) | exact (fun q hq => (pk_un (by omega)).trans (hk_4 q hq))) _ _ _ hP hD hS (lv_sub hl [2, 3, 1, 0] rfl)
  have hP : va_P (dC, dI) vwCl (rW h cs (va_up I 11 (nI a0)) L A Q) H := by rw [← hat]; exact hP
  have hD : va_D A0 (rW h cs (va_up I 11 (nI a0)) L A Q) := by rw [← hat]; exact hD
  exact cut_4 _ 0 1 a0 (I 12) (A 13) (Nat.lt_succ_self _) (Or.inl ⟨rfl, ⟨rfl, rfl, rfl⟩, by omega⟩) (by first | assumption | omega) (by first | assumption | omega) (by first | assumption | omega) (by first | assumption | omega) (by first | exact (fun _ _ => rfl) | exact (fun q hq => (pk_un (by omega)).trans (hk_4 q hq))) _ _ _ hP hD hS (lv_sub hl [2, 3, 1, 0] rfl)
