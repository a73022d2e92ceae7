theorem bdX1_shorten_0 : (decode cX1_shorten 0 = .ok (.iconst 0, 1)) ∧ (decode cX1_shorten 1 = .ok (.istore 4, 2)) ∧ (decode cX1_shorten 3 = .ok (.iload 4, 2)) ∧ (decode cX1_shorten 5 = .ok (.aload_n 0, 1)) ∧ (decode cX1_shorten 6 = .ok (.getfield 27, 3)) ∧ (decode cX1_shorten 9 = .ok (.getfield 64, 3)) ∧ (decode cX1_shorten 12 = .ok (.if_icmp .ge 32, 3)) ∧ (decode cX1_shorten 15 = .ok (.aload_n 0, 1)) ∧ (decode cX1_shorten 16 = .ok (.getfield 11, 3)) ∧ (decode cX1_shorten 19 = .ok (.iload 4, 2)) ∧ (decode cX1_shorten 21 = .ok (.aaload, 1)) ∧ (decode cX1_shorten 22 = .ok (.iload_n 1, 1)) ∧ (decode cX1_shorten 23 = .ok (.dup2, 1)) ∧ (decode cX1_shorten 24 = .ok (.iaload, 1)) ∧ (decode cX1_shorten 25 = .ok (.iload_n 3, 1)) ∧ (decode cX1_shorten 26 = .ok (.aload_n 0, 1)) := by decide +kernel
theorem dX1_shorten_0 : decode cX1_shorten 0 = .ok (.iconst 0, 1) := bdX1_shorten_0.1
theorem dX1_shorten_1 : decode cX1_shorten 1 = .ok (.istore 4, 2) := bdX1_shorten_0.2.1
theorem dX1_shorten_3 : decode cX1_shorten 3 = .ok (.iload 4, 2) := bdX1_shorten_0.2.2.1
theorem dX1_shorten_5 : decode cX1_shorten 5 = .ok (.aload_n 0, 1) := bdX1_shorten_0.2.2.2.1
theorem dX1_shorten_6 : decode cX1_shorten 6 = .ok (.getfield 27, 3) := bdX1_shorten_0.2.2.2.2.1
theorem dX1_shorten_9 : decode cX1_shorten 9 = .ok (.getfield 64, 3) := bdX1_shorten_0.2.2.2.2.2.1
theorem dX1_shorten_12 : decode cX1_shorten 12 = .ok (.if_icmp .ge 32, 3) := bdX1_shorten_0.2.2.2.2.2.2.1
theorem dX1_shorten_15 : decode cX1_shorten 15 = .ok (.aload_n 0, 1) := bdX1_shorten_0.2.2.2.2.2.2.2.1
theorem dX1_shorten_16 : decode cX1_shorten 16 = .ok (.getfield 11, 3) := bdX1_shorten_0.2.2.2.2.2.2.2.2.1
theorem dX1_shorten_19 : decode cX1_shorten 19 = .ok (.iload 4, 2) := bdX1_shorten_0.2.2.2.2.2.2.2.2.2.1
theorem dX1_shorten_21 : decode cX1_shorten 21 = .ok (.aaload, 1) := bdX1_shorten_0.2.2.2.2.2.2.2.2.2.2.1
theorem dX1_shorten_22 : decode cX1_shorten 22 = .ok (.iload_n 1, 1) := bdX1_shorten_0.2.2.2.2.2.2.2.2.2.2.2.1
theorem dX1_shorten_23 : decode cX1_shorten 23 = .ok (.dup2, 1) := bdX1_shorten_0.2.2.2.2.2.2.2.2.2.2.2.2.1
theorem dX1_shorten_24 : decode cX1_shorten 24 = .ok (.iaload, 1) := bdX1_shorten_0.2.2.2.2.2.2.2.2.2.2.2.2.2.1
theorem dX1_shorten_25 : decode cX1_shorten 25 = .ok (.iload_n 3, 1) := bdX1_shorten_0.2.2.2.2.2.2.2.2.2.2.2.2.2.2.1
theorem dX1_shorten_26 : decode cX1_shorten 26 = .ok (.aload_n 0, 1) := bdX1_shorten_0.2.2.2.2.2.2.2.2.2.2.2.2.2.2.2
theorem bdX1_shorten_27 : (decode cX1_shorten 27 = .ok (.getfield 11, 3)) ∧ (decode cX1_shorten 30 = .ok (.iload 4, 2)) ∧ (decode cX1_shorten 32 = .ok (.aaload, 1)) ∧ (decode cX1_shorten 33 = .ok (.iload_n 2, 1)) ∧ (decode cX1_shorten 34 = .ok (.iaload, 1)) ∧ (decode cX1_shorten 35 = .ok (.imul, 1)) ∧ (decode cX1_shorten 36 = .ok (.isub, 1)) ∧ (decode cX1_shorten 37 = .ok (.iastore, 1)) ∧ (decode cX1_shorten 38 = .ok (.iinc 4 1, 3)) ∧ (decode cX1_shorten 41 = .ok (.goto (-38), 3)) ∧ (decode cX1_shorten 44 = .ok (.iconst 0, 1)) ∧ (decode cX1_shorten 45 = .ok (.istore 4, 2)) ∧ (decode cX1_shorten 47 = .ok (.iload 4, 2)) ∧ (decode cX1_shorten 49 = .ok (.aload_n 0, 1)) ∧ (decode cX1_shorten 50 = .ok (.getfield 27, 3)) ∧ (decode cX1_shorten 53 = .ok (.getfield 53, 3)) := by decide +kernel
theorem dX1_shorten_27 : decode cX1_shorten 27 = .ok (.getfield 11, 3) := bdX1_shorten_27.1
theorem dX1_shorten_30 : decode cX1_shorten 30 = .ok (.iload 4, 2) := bdX1_shorten_27.2.1
theorem dX1_shorten_32 : decode cX1_shorten 32 = .ok (.aaload, 1) := bdX1_shorten_27.2.2.1
theorem dX1_shorten_33 : decode cX1_shorten 33 = .ok (.iload_n 2, 1) := bdX1_shorten_27.2.2.2.1
theorem dX1_shorten_34 : decode cX1_shorten 34 = .ok (.iaload, 1) := bdX1_shorten_27.2.2.2.2.1
theorem dX1_shorten_35 : decode cX1_shorten 35 = .ok (.imul, 1) := bdX1_shorten_27.2.2.2.2.2.1
theorem dX1_shorten_36 : decode cX1_shorten 36 = .ok (.isub, 1) := bdX1_shorten_27.2.2.2.2.2.2.1
theorem dX1_shorten_37 : decode cX1_shorten 37 = .ok (.iastore, 1) := bdX1_shorten_27.2.2.2.2.2.2.2.1
theorem dX1_shorten_38 : decode cX1_shorten 38 = .ok (.iinc 4 1, 3) := bdX1_shorten_27.2.2.2.2.2.2.2.2.1
theorem dX1_shorten_41 : decode cX1_shorten 41 = .ok (.goto (-38), 3) := bdX1_shorten_27.2.2.2.2.2.2.2.2.2.1
theorem dX1_shorten_44 : decode cX1_shorten 44 = .ok (.iconst 0, 1) := bdX1_shorten_27.2.2.2.2.2.2.2.2.2.2.1
theorem dX1_shorten_45 : decode cX1_shorten 45 = .ok (.istore 4, 2) := bdX1_shorten_27.2.2.2.2.2.2.2.2.2.2.2.1
theorem dX1_shorten_47 : decode cX1_shorten 47 = .ok (.iload 4, 2) := bdX1_shorten_27.2.2.2.2.2.2.2.2.2.2.2.2.1
theorem dX1_shorten_49 : decode cX1_shorten 49 = .ok (.aload_n 0, 1) := bdX1_shorten_27.2.2.2.2.2.2.2.2.2.2.2.2.2.1
theorem dX1_shorten_50 : decode cX1_shorten 50 = .ok (.getfield 27, 3) := bdX1_shorten_27.2.2.2.2.2.2.2.2.2.2.2.2.2.2.1
theorem dX1_shorten_53 : decode cX1_shorten 53 = .ok (.getfield 53, 3) := bdX1_shorten_27.2.2.2.2.2.2.2.2.2.2.2.2.2.2.2
theorem bdX1_shorten_56 : (decode cX1_shorten 56 = .ok (.if_icmp .ge 32, 3)) ∧ (decode cX1_shorten 59 = .ok (.aload_n 0, 1)) ∧ (decode cX1_shorten 60 = .ok (.getfield 16, 3)) ∧ (decode cX1_shorten 63 = .ok (.iload 4, 2)) ∧ (decode cX1_shorten 65 = .ok (.aaload, 1)) ∧ (decode cX1_shorten 66 = .ok (.iload_n 1, 1)) ∧ (decode cX1_shorten 67 = .ok (.dup2, 1)) ∧ (decode cX1_shorten 68 = .ok (.iaload, 1)) ∧ (decode cX1_shorten 69 = .ok (.iload_n 3, 1)) ∧ (decode cX1_shorten 70 = .ok (.aload_n 0, 1)) ∧ (decode cX1_shorten 71 = .ok (.getfield 16, 3)) ∧ (decode cX1_shorten 74 = .ok (.iload 4, 2)) ∧ (decode cX1_shorten 76 = .ok (.aaload, 1)) ∧ (decode cX1_shorten 77 = .ok (.iload_n 2, 1)) ∧ (decode cX1_shorten 78 = .ok (.iaload, 1)) ∧ (decode cX1_shorten 79 = .ok (.imul, 1)) := by decide +kernel
theorem dX1_shorten_56 : decode cX1_shorten 56 = .ok (.if_icmp .ge 32, 3) := bdX1_shorten_56.1
theorem dX1_shorten_59 : decode cX1_shorten 59 = .ok (.aload_n 0, 1) := bdX1_shorten_56.2.1
theorem dX1_shorten_60 : decode cX1_shorten 60 = .ok (.getfield 16, 3) := bdX1_shorten_56.2.2.1
theorem dX1_shorten_63 : decode cX1_shorten 63 = .ok (.iload 4, 2) := bdX1_shorten_56.2.2.2.1
theorem dX1_shorten_65 : decode cX1_shorten 65 = .ok (.aaload, 1) := bdX1_shorten_56.2.2.2.2.1
theorem dX1_shorten_66 : decode cX1_shorten 66 = .ok (.iload_n 1, 1) := bdX1_shorten_56.2.2.2.2.2.1
theorem dX1_shorten_67 : decode cX1_shorten 67 = .ok (.dup2, 1) := bdX1_shorten_56.2.2.2.2.2.2.1
theorem dX1_shorten_68 : decode cX1_shorten 68 = .ok (.iaload, 1) := bdX1_shorten_56.2.2.2.2.2.2.2.1
theorem dX1_shorten_69 : decode cX1_shorten 69 = .ok (.iload_n 3, 1) := bdX1_shorten_56.2.2.2.2.2.2.2.2.1
theorem dX1_shorten_70 : decode cX1_shorten 70 = .ok (.aload_n 0, 1) := bdX1_shorten_56.2.2.2.2.2.2.2.2.2.1
theorem dX1_shorten_71 : decode cX1_shorten 71 = .ok (.getfield 16, 3) := bdX1_shorten_56.2.2.2.2.2.2.2.2.2.2.1
theorem dX1_shorten_74 : decode cX1_shorten 74 = .ok (.iload 4, 2) := bdX1_shorten_56.2.2.2.2.2.2.2.2.2.2.2.1
theorem dX1_shorten_76 : decode cX1_shorten 76 = .ok (.aaload, 1) := bdX1_shorten_56.2.2.2.2.2.2.2.2.2.2.2.2.1
theorem dX1_shorten_77 : decode cX1_shorten 77 = .ok (.iload_n 2, 1) := bdX1_shorten_56.2.2.2.2.2.2.2.2.2.2.2.2.2.1
theorem dX1_shorten_78 : decode cX1_shorten 78 = .ok (.iaload, 1) := bdX1_shorten_56.2.2.2.2.2.2.2.2.2.2.2.2.2.2.1
theorem dX1_shorten_79 : decode cX1_shorten 79 = .ok (.imul, 1) := bdX1_shorten_56.2.2.2.2.2.2.2.2.2.2.2.2.2.2.2
theorem bdX1_shorten_80 : (decode cX1_shorten 80 = .ok (.isub, 1)) ∧ (decode cX1_shorten 81 = .ok (.iastore, 1)) ∧ (decode cX1_shorten 82 = .ok (.iinc 4 1, 3)) ∧ (decode cX1_shorten 85 = .ok (.goto (-38), 3)) ∧ (decode cX1_shorten 88 = .ok (.return_, 1)) := by decide +kernel
theorem dX1_shorten_80 : decode cX1_shorten 80 = .ok (.isub, 1) := bdX1_shorten_80.1
theorem dX1_shorten_81 : decode cX1_shorten 81 = .ok (.iastore, 1) := bdX1_shorten_80.2.1
theorem dX1_shorten_82 : decode cX1_shorten 82 = .ok (.iinc 4 1, 3) := bdX1_shorten_80.2.2.1
theorem dX1_shorten_85 : decode cX1_shorten 85 = .ok (.goto (-38), 3) := bdX1_shorten_80.2.2.2.1
theorem dX1_shorten_88 : decode cX1_shorten 88 = .ok (.return_, 1) := bdX1_shorten_80.2.2.2.2
set_option maxHeartbeats 4000000 in
set_option maxRecDepth 100000 in
theorem k_X1_shorten (l : Launch) (dC : Nat → ClassId) (dI : Nat → Nat → Nat) (h : Nat → Nat) (cs : Nat → ClassId) (sz : Nat) (I : Nat → Int32) (L : Nat → Int64) (A : Nat → Nat → Int32) (Q : Nat → Nat → Int64) (G : Nat → Nat → Nat → Int32) (J : Nat → Nat → Nat → Int64) (i j : Nat) (x : Int32) (R M : Nat) (hi4 : i < 4) (hj4 : j < 4) (hR : I 120 = nI R) (hR1 : 1 ≤ R) (hR5 : R ≤ 5) (hM : I 121 = nI M) (hM1 : 1 ≤ M) (hM4 : M ≤ 4) : Met l yX1_shorten wsX1_shorten ({ frames := 0, cells := 0, slots := 0, locals := 0 }) (va_Pc [.ref (h 108), .int (nI i), .int (nI j), .int x] (xPre (dC, dI) (wLead h cs I L A Q G J) (tysA cs) sz)) (va_Qv (fun (u : CS) => ∃ g2 : Nat → Nat → Int32, ∃ g3 : Nat → Nat → Int32, (True) ∧ u = (I, L, A, Q, (va_up (va_up G 2 g2) 3 g3), J)) (xB (dC, dI) (tysA cs) (va_A (wLead h cs I L A Q G J) sz) (fun u : CS => wLead h cs u.1 u.2.1 u.2.2.1 u.2.2.2.1 u.2.2.2.2.1 u.2.2.2.2.2)) (va_A (wLead h cs I L A Q G J) sz)) 0 0 (va_A (wLead h cs I L A Q G J) sz) := by
  refine Met.ofW (cc := cX1_shorten) (maxL := 5) (ret := none) (by decide) rfl ?_
  intro p e s m args below meth c s₁ B hml hv
  obtain ⟨rfl, hsz, hP, hK, hD0, hN⟩ := hv
  have hx := B.exec
  have hb := B.bytes
  have hr := B.returns
  have hts := atoms_spec (ws := wsX1_shorten) B.pre
  have hown : s.vm.findClass RX1 = some m.cls := findClass_of_methodNamed B.named
  have hlocks := B.notSynchronized
  subst hsz
  have hD := hD0.self (sz := s.heap.size)
  generalize hAe : va_A (wLead h cs I L A Q G J) s.heap.size = A0 at hD ⊢
  have hA : ∀ q : Nat, s.heap.size ≤ q → A0 q := fun q h => by rw [← hAe]; exact Or.inr h
  have hl := lv_entry ([.ref (h 108), .int (nI i), .int (nI j), .int x]) (n := 5) (Nat.le_of_ble_eq_true rfl)
  rw [lg_entry_eq]
  generalize (lg_sl ([.ref (h 108), .int (nI i), .int (nI j), .int x]) ++ List.replicate (5 - (lg_sl ([.ref (h 108), .int (nI i), .int (nI j), .int x])).length) Slot.unset).toArray = ls at hl ⊢
  have hl : lv_has ls 5 [(0, .ref (h 108)), (1, .int (nI i)), (2, .int (nI j)), (3, .int x)] := hl
  generalize hH : s.heap = H at hP ⊢
  have hS : va_S A0 s.heap H [] := by rw [← hH]; exact va_S.rf
  have hinX1 : ∀ w ∈ wsX10, w ∈ wsX1_shorten := by decide +kernel
  have hinX3 : ∀ w ∈ wsX30, w ∈ wsX1_shorten := by decide +kernel
  refine lv_iconst (v := nI 0) hx hb dX1_shorten_0 (by decide) ?_
  refine lv_istore (lv' := [(4, .int (nI 0)), (0, .ref (h 108)), (1, .int (nI i)), (2, .int (nI j)), (3, .int x)]) hx hb dX1_shorten_1 hl (by decide) rfl (fun ls hl => ?_)
  have cut_3 : ∀ (nf : Nat) (n : Nat) (g2 : Nat → Nat → Int32), (R - n) < nf → (n ≤ R) → ∀ (H : Heap) (locs : List Loc) (ls : Array Slot), va_P (dC, dI) vwCl (wLead h cs I L A Q (va_up G 2 g2) J) H → va_D A0 (wLead h cs I L A Q (va_up G 2 g2) J) → va_S A0 s.heap H locs → lv_has ls 5 [(0, .ref (h 108)), (1, .int (nI i)), (2, .int (nI j)), (3, .int x), (4, .int (nI n))] → W p l e (headSpec wsX1_shorten ({ frames := 0, cells := 0, slots := 0, locals := 0 })).room s m ([.ref (h 108), .int (nI i), .int (nI j), .int x] : List Value).toArray below meth c H locs 0 0 (MQ below (va_Qv (fun (u : CS) => ∃ g2 : Nat → Nat → Int32, ∃ g3 : Nat → Nat → Int32, (True) ∧ u = (I, L, A, Q, (va_up (va_up G 2 g2) 3 g3), J)) (xB (dC, dI) (tysA cs) A0 (fun u : CS => wLead h cs u.1 u.2.1 u.2.2.1 u.2.2.2.1 u.2.2.2.2.1 u.2.2.2.2.2)) A0) ([.ref (h 108), .int (nI i), .int (nI j), .int x] : List Value).toArray s 0 0 A0) (F0 m 3 ls []) := by
    intro nf
    induction nf with
    | zero => intro n g2 hm; exact absurd hm (Nat.not_lt_zero _)
    | succ nf ih_3 =>
      intro n g2 hm_3 hn3 H locs ls hP hD hS hl
      refine lv_iload hx hb dX1_shorten_3 (lv_at hl 4 rfl) ?_
      refine lv_aload_n hx hb dX1_shorten_5 rfl (lv_at hl 0 rfl) ?_
      refine va_get (D := (dC, dI)) (ci := 1) (v := .ref (h 101)) (C := RX1) (T := TX1) (N := 6) hx hb hts hinX1 hown hK hP 0 rfl rfl 0 (by decide) (hts (.fieldLink RX1 27 "MixedWords$Leader" "mix" "LMixedWords$Mix;") (by decide +kernel)) (fun _ h9 => h9) rfl dX1_shorten_6 ?_
      refine va_get (D := (dC, dI)) (ci := 3) (v := .int (I 120)) (C := RX3) (T := TX3) (N := 6) hx hb hts hinX3 hown hK hP 13 rfl rfl 0 (by decide) (hts (.fieldLink RX1 64 "MixedWords$Mix" "height" "I") (by decide +kernel)) (fun _ h9 => h9) rfl dX1_shorten_9 ?_
      refine xt_i (y := nI R) (hR) ?_
      refine xn_ge (tgt := 44) hx hb dX1_shorten_12 (by decide) (by omega) (by omega) (fun c_12_0 => ?_) (fun c_12_0 => ?_)
      · skip
        refine lv_iconst (v := nI 0) hx hb dX1_shorten_44 (by decide) ?_
        refine lv_istore (lv' := [(4, .int (nI 0)), (0, .ref (h 108)), (1, .int (nI i)), (2, .int (nI j)), (3, .int x)]) hx hb dX1_shorten_45 hl (by decide) rfl (fun ls hl => ?_)
        have cut_47 : ∀ (nf : Nat) (k : Nat) (g3 : Nat → Nat → Int32), (M - k) < nf → (k ≤ M) → ∀ (H : Heap) (locs : List Loc) (ls : Array Slot), va_P (dC, dI) vwCl (wLead h cs I L A Q (va_up (va_up G 2 g2) 3 g3) J) H → va_D A0 (wLead h cs I L A Q (va_up (va_up G 2 g2) 3 g3) J) → va_S A0 s.heap H locs → lv_has ls 5 [(0, .ref (h 108)), (1, .int (nI i)), (2, .int (nI j)), (3, .int x), (4, .int (nI k))] → W p l e (headSpec wsX1_shorten ({ frames := 0, cells := 0, slots := 0, locals := 0 })).room s m ([.ref (h 108), .int (nI i), .int (nI j), .int x] : List Value).toArray below meth c H locs 0 0 (MQ below (va_Qv (fun (u : CS) => ∃ g2 : Nat → Nat → Int32, ∃ g3 : Nat → Nat → Int32, (True) ∧ u = (I, L, A, Q, (va_up (va_up G 2 g2) 3 g3), J)) (xB (dC, dI) (tysA cs) A0 (fun u : CS => wLead h cs u.1 u.2.1 u.2.2.1 u.2.2.2.1 u.2.2.2.2.1 u.2.2.2.2.2)) A0) ([.ref (h 108), .int (nI i), .int (nI j), .int x] : List Value).toArray s 0 0 A0) (F0 m 47 ls []) := by
          intro nf
          induction nf with
          | zero => intro k g3 hm; exact absurd hm (Nat.not_lt_zero _)
          | succ nf ih_47 =>
            intro k g3 hm_47 hk47 H locs ls hP hD hS hl
            refine lv_iload hx hb dX1_shorten_47 (lv_at hl 4 rfl) ?_
            refine lv_aload_n hx hb dX1_shorten_49 rfl (lv_at hl 0 rfl) ?_
            refine va_get (D := (dC, dI)) (ci := 1) (v := .ref (h 101)) (C := RX1) (T := TX1) (N := 6) hx hb hts hinX1 hown hK hP 0 rfl rfl 0 (by decide) (hts (.fieldLink RX1 27 "MixedWords$Leader" "mix" "LMixedWords$Mix;") (by decide +kernel)) (fun _ h9 => h9) rfl dX1_shorten_50 ?_
            refine va_get (D := (dC, dI)) (ci := 3) (v := .int (I 121)) (C := RX3) (T := TX3) (N := 6) hx hb hts hinX3 hown hK hP 13 rfl rfl 1 (by decide) (hts (.fieldLink RX1 53 "MixedWords$Mix" "width" "I") (by decide +kernel)) (fun _ h9 => h9) rfl dX1_shorten_53 ?_
            refine xt_i (y := nI M) (hM) ?_
            refine xn_ge (tgt := 88) hx hb dX1_shorten_56 (by decide) (by omega) (by omega) (fun c_56_1 => ?_) (fun c_56_1 => ?_)
            · skip
              exact xr_v hx hb hr hlocks hK hS dX1_shorten_88 (I, L, A, Q, (va_up (va_up G 2 g2) 3 g3), J) ⟨g2, g3, trivial, rfl⟩ hP hD
            · skip
              refine lv_aload_n hx hb dX1_shorten_59 rfl (lv_at hl 0 rfl) ?_
              refine va_get (D := (dC, dI)) (ci := 1) (v := .ref (h 206)) (C := RX1) (T := TX1) (N := 6) hx hb hts hinX1 hown hK hP 0 rfl rfl 2 (by decide) (hts (.fieldLink RX1 16 "MixedWords$Leader" "steps" "[[I") (by decide +kernel)) (fun _ h9 => h9) rfl dX1_shorten_60 ?_
              refine lv_iload hx hb dX1_shorten_63 (lv_at hl 4 rfl) ?_
              refine xa_aald (b := h (k + 207)) hx hb hK hP 7 3 rfl rfl rfl (by omega) (by decide) (if_pos (by omega)) dX1_shorten_65 ?_
              refine lv_iload_n hx hb dX1_shorten_66 rfl (lv_at hl 1 rfl) ?_
              refine lv_dup2_11 hx hb dX1_shorten_67 rfl rfl ?_
              refine xa_iald hx hb hK hP (8 + k) 0 (wLead_atG3 (by omega)) rfl (by omega) (by decide) dX1_shorten_68 ?_
              refine lv_iload_n hx hb dX1_shorten_69 rfl (lv_at hl 3 rfl) ?_
              refine lv_aload_n hx hb dX1_shorten_70 rfl (lv_at hl 0 rfl) ?_
              refine va_get (D := (dC, dI)) (ci := 1) (v := .ref (h 206)) (C := RX1) (T := TX1) (N := 6) hx hb hts hinX1 hown hK hP 0 rfl rfl 2 (by decide) (hts (.fieldLink RX1 16 "MixedWords$Leader" "steps" "[[I") (by decide +kernel)) (fun _ h9 => h9) rfl dX1_shorten_71 ?_
              refine lv_iload hx hb dX1_shorten_74 (lv_at hl 4 rfl) ?_
              refine xa_aald (b := h (k + 207)) hx hb hK hP 7 3 rfl rfl rfl (by omega) (by decide) (if_pos (by omega)) dX1_shorten_76 ?_
              refine lv_iload_n hx hb dX1_shorten_77 rfl (lv_at hl 2 rfl) ?_
              refine xa_iald hx hb hK hP (8 + k) 0 (wLead_atG3 (by omega)) rfl (by omega) (by decide) dX1_shorten_78 ?_
              refine lv_imul hx hb dX1_shorten_79 ?_
              refine lv_isub hx hb dX1_shorten_80 ?_
              refine xa_iast hx hb hK hP hD hS (8 + k) 0 (wLead_atG3 (by omega)) rfl (by omega) (by decide) dX1_shorten_81 (fun H locs hP hD hS => ?_)
              rw [wLead_setG3 (by omega)] at hP hD
              have hP : va_P (dC, dI) vwCl (wLead h cs I L A Q (va_up (va_up G 2 g2) 3 (va_up g3 k (upd (g3 k) i (((g3 k) i) - (x * ((g3 k) j)))))) J) H := hP
              have hD : va_D A0 (wLead h cs I L A Q (va_up (va_up G 2 g2) 3 (va_up g3 k (upd (g3 k) i (((g3 k) i) - (x * ((g3 k) j)))))) J) := hD
              refine lv_iinc (v := nI (k + 1)) (lv' := [(4, .int (nI (k + 1))), (0, .ref (h 108)), (1, .int (nI i)), (2, .int (nI j)), (3, .int x)]) hx hb dX1_shorten_82 hl (k := 4) rfl (nI_1 _) (by decide) rfl (fun ls hl => ?_)
              refine lv_goto (tgt := 47) hx hb dX1_shorten_85 (by decide) ?_
              exact ih_47 (k + 1) (va_up g3 k (upd (g3 k) i (((g3 k) i) - (x * ((g3 k) j))))) (by omega) (by first | assumption | omega) _ _ _ hP hD hS (lv_sub hl [1, 2, 3, 4, 0] rfl)
        exact cut_47 _ 0 (G 3) (Nat.lt_succ_self _) (by first | assumption | omega) _ _ _ hP hD hS (lv_sub hl [1, 2, 3, 4, 0] rfl)
      · skip
        refine lv_aload_n hx hb dX1_shorten_15 rfl (lv_at hl 0 rfl) ?_
        refine va_get (D := (dC, dI)) (ci := 1) (v := .ref (h 200)) (C := RX1) (T := TX1) (N := 6) hx hb hts hinX1 hown hK hP 0 rfl rfl 1 (by decide) (hts (.fieldLink RX1 11 "MixedWords$Leader" "columns" "[[I") (by decide +kernel)) (fun _ h9 => h9) rfl dX1_shorten_16 ?_
        refine lv_iload hx hb dX1_shorten_19 (lv_at hl 4 rfl) ?_
        refine xa_aald (b := h (n + 201)) hx hb hK hP 1 3 rfl rfl rfl (by omega) (by decide) (if_pos (by omega)) dX1_shorten_21 ?_
        refine lv_iload_n hx hb dX1_shorten_22 rfl (lv_at hl 1 rfl) ?_
        refine lv_dup2_11 hx hb dX1_shorten_23 rfl rfl ?_
        refine xa_iald hx hb hK hP (2 + n) 0 (wLead_atG2 (by omega)) rfl (by omega) (by decide) dX1_shorten_24 ?_
        refine lv_iload_n hx hb dX1_shorten_25 rfl (lv_at hl 3 rfl) ?_
        refine lv_aload_n hx hb dX1_shorten_26 rfl (lv_at hl 0 rfl) ?_
        refine va_get (D := (dC, dI)) (ci := 1) (v := .ref (h 200)) (C := RX1) (T := TX1) (N := 6) hx hb hts hinX1 hown hK hP 0 rfl rfl 1 (by decide) (hts (.fieldLink RX1 11 "MixedWords$Leader" "columns" "[[I") (by decide +kernel)) (fun _ h9 => h9) rfl dX1_shorten_27 ?_
        refine lv_iload hx hb dX1_shorten_30 (lv_at hl 4 rfl) ?_
        refine xa_aald (b := h (n + 201)) hx hb hK hP 1 3 rfl rfl rfl (by omega) (by decide) (if_pos (by omega)) dX1_shorten_32 ?_
        refine lv_iload_n hx hb dX1_shorten_33 rfl (lv_at hl 2 rfl) ?_
        refine xa_iald hx hb hK hP (2 + n) 0 (wLead_atG2 (by omega)) rfl (by omega) (by decide) dX1_shorten_34 ?_
        refine lv_imul hx hb dX1_shorten_35 ?_
        refine lv_isub hx hb dX1_shorten_36 ?_
        refine xa_iast hx hb hK hP hD hS (2 + n) 0 (wLead_atG2 (by omega)) rfl (by omega) (by decide) dX1_shorten_37 (fun H locs hP hD hS => ?_)
        rw [wLead_setG2 (by omega)] at hP hD
        have hP : va_P (dC, dI) vwCl (wLead h cs I L A Q (va_up G 2 (va_up g2 n (upd (g2 n) i (((g2 n) i) - (x * ((g2 n) j)))))) J) H := hP
        have hD : va_D A0 (wLead h cs I L A Q (va_up G 2 (va_up g2 n (upd (g2 n) i (((g2 n) i) - (x * ((g2 n) j)))))) J) := hD
        refine lv_iinc (v := nI (n + 1)) (lv' := [(4, .int (nI (n + 1))), (0, .ref (h 108)), (1, .int (nI i)), (2, .int (nI j)), (3, .int x)]) hx hb dX1_shorten_38 hl (k := 4) rfl (nI_1 _) (by decide) rfl (fun ls hl => ?_)
        refine lv_goto (tgt := 3) hx hb dX1_shorten_41 (by decide) ?_
        exact ih_3 (n + 1) (va_up g2 n (upd (g2 n) i (((g2 n) i) - (x * ((g2 n) j))))) (by omega) (by first | assumption | omega) _ _ _ hP hD hS (lv_sub hl [1, 2, 3, 4, 0] rfl)
  exact cut_3 _ 0 (G 2) (Nat.lt_succ_self _) (by first | assumption | omega) _ _ _ hP hD hS (lv_sub hl [1, 2, 3, 4, 0] rfl)
set_option maxRecDepth 20000 in
theorem ggX1_shortenFirst_X1_quotient : GoodIn wsX1_shortenFirst wsX1_quotient := goodIn_r _ [7, 8, 1, 9, 10, 11, 12, 13, 14, 15, 16, 22, 23, 24, 25, 26, 27, 28, 29, 30, 31, 32, 33] (by decide +kernel) (by decide +kernel)
set_option maxRecDepth 20000 in
theorem gX1_shortenFirst_X1_quotient : GoodIn wsX1_shortenFirst (wsV RX1 56 RX1 yX1_quotient wsX1_quotient) := goodIn_app (goodIn_of _ (by decide +kernel)) ggX1_shortenFirst_X1_quotient
set_option maxRecDepth 20000 in
theorem ggX1_shortenFirst_X1_shorten : GoodIn wsX1_shortenFirst wsX1_shorten := goodIn_r _ [20, 1, 9, 8, 2, 21, 22, 23, 24, 25, 26, 27, 28, 29, 30, 31, 32, 33] (by decide +kernel) (by decide +kernel)
set_option maxRecDepth 20000 in
theorem gX1_shortenFirst_X1_shorten : GoodIn wsX1_shortenFirst (wsV RX1 60 RX1 yX1_shorten wsX1_shorten) := goodIn_app (goodIn_of _ (by decide +kernel)) ggX1_shortenFirst_X1_shorten
theorem bdX1_shortenFirst_0 : (decode cX1_shortenFirst 0 = .ok (.iconst 0, 1)) ∧ (decode cX1_shortenFirst 1 = .ok (.istore_n 1, 1)) ∧ (decode cX1_shortenFirst 2 = .ok (.iload_n 1, 1)) ∧ (decode cX1_shortenFirst 3 = .ok (.aload_n 0, 1)) ∧ (decode cX1_shortenFirst 4 = .ok (.getfield 27, 3)) ∧ (decode cX1_shortenFirst 7 = .ok (.getfield 53, 3)) ∧ (decode cX1_shortenFirst 10 = .ok (.if_icmp .ge 57, 3)) ∧ (decode cX1_shortenFirst 13 = .ok (.iconst 0, 1)) ∧ (decode cX1_shortenFirst 14 = .ok (.istore_n 2, 1)) ∧ (decode cX1_shortenFirst 15 = .ok (.iload_n 2, 1)) ∧ (decode cX1_shortenFirst 16 = .ok (.aload_n 0, 1)) ∧ (decode cX1_shortenFirst 17 = .ok (.getfield 27, 3)) ∧ (decode cX1_shortenFirst 20 = .ok (.getfield 53, 3)) ∧ (decode cX1_shortenFirst 23 = .ok (.if_icmp .ge 38, 3)) ∧ (decode cX1_shortenFirst 26 = .ok (.iload_n 1, 1)) ∧ (decode cX1_shortenFirst 27 = .ok (.iload_n 2, 1)) := by decide +kernel
theorem dX1_shortenFirst_0 : decode cX1_shortenFirst 0 = .ok (.iconst 0, 1) := bdX1_shortenFirst_0.1
theorem dX1_shortenFirst_1 : decode cX1_shortenFirst 1 = .ok (.istore_n 1, 1) := bdX1_shortenFirst_0.2.1
theorem dX1_shortenFirst_2 : decode cX1_shortenFirst 2 = .ok (.iload_n 1, 1) := bdX1_shortenFirst_0.2.2.1
theorem dX1_shortenFirst_3 : decode cX1_shortenFirst 3 = .ok (.aload_n 0, 1) := bdX1_shortenFirst_0.2.2.2.1
theorem dX1_shortenFirst_4 : decode cX1_shortenFirst 4 = .ok (.getfield 27, 3) := bdX1_shortenFirst_0.2.2.2.2.1
theorem dX1_shortenFirst_7 : decode cX1_shortenFirst 7 = .ok (.getfield 53, 3) := bdX1_shortenFirst_0.2.2.2.2.2.1
theorem dX1_shortenFirst_10 : decode cX1_shortenFirst 10 = .ok (.if_icmp .ge 57, 3) := bdX1_shortenFirst_0.2.2.2.2.2.2.1
theorem dX1_shortenFirst_13 : decode cX1_shortenFirst 13 = .ok (.iconst 0, 1) := bdX1_shortenFirst_0.2.2.2.2.2.2.2.1
theorem dX1_shortenFirst_14 : decode cX1_shortenFirst 14 = .ok (.istore_n 2, 1) := bdX1_shortenFirst_0.2.2.2.2.2.2.2.2.1
theorem dX1_shortenFirst_15 : decode cX1_shortenFirst 15 = .ok (.iload_n 2, 1) := bdX1_shortenFirst_0.2.2.2.2.2.2.2.2.2.1
theorem dX1_shortenFirst_16 : decode cX1_shortenFirst 16 = .ok (.aload_n 0, 1) := bdX1_shortenFirst_0.2.2.2.2.2.2.2.2.2.2.1
theorem dX1_shortenFirst_17 : decode cX1_shortenFirst 17 = .ok (.getfield 27, 3) := bdX1_shortenFirst_0.2.2.2.2.2.2.2.2.2.2.2.1
theorem dX1_shortenFirst_20 : decode cX1_shortenFirst 20 = .ok (.getfield 53, 3) := bdX1_shortenFirst_0.2.2.2.2.2.2.2.2.2.2.2.2.1
theorem dX1_shortenFirst_23 : decode cX1_shortenFirst 23 = .ok (.if_icmp .ge 38, 3) := bdX1_shortenFirst_0.2.2.2.2.2.2.2.2.2.2.2.2.2.1
theorem dX1_shortenFirst_26 : decode cX1_shortenFirst 26 = .ok (.iload_n 1, 1) := bdX1_shortenFirst_0.2.2.2.2.2.2.2.2.2.2.2.2.2.2.1
theorem dX1_shortenFirst_27 : decode cX1_shortenFirst 27 = .ok (.iload_n 2, 1) := bdX1_shortenFirst_0.2.2.2.2.2.2.2.2.2.2.2.2.2.2.2
theorem bdX1_shortenFirst_28 : (decode cX1_shortenFirst 28 = .ok (.if_icmp .ne 7, 3)) ∧ (decode cX1_shortenFirst 31 = .ok (.iconst 0, 1)) ∧ (decode cX1_shortenFirst 32 = .ok (.goto 9, 3)) ∧ (decode cX1_shortenFirst 35 = .ok (.aload_n 0, 1)) ∧ (decode cX1_shortenFirst 36 = .ok (.iload_n 1, 1)) ∧ (decode cX1_shortenFirst 37 = .ok (.iload_n 2, 1)) ∧ (decode cX1_shortenFirst 38 = .ok (.invokevirtual 56, 3)) ∧ (decode cX1_shortenFirst 41 = .ok (.istore_n 3, 1)) ∧ (decode cX1_shortenFirst 42 = .ok (.iload_n 3, 1)) ∧ (decode cX1_shortenFirst 43 = .ok (.ifCond .eq 12, 3)) ∧ (decode cX1_shortenFirst 46 = .ok (.aload_n 0, 1)) ∧ (decode cX1_shortenFirst 47 = .ok (.iload_n 1, 1)) ∧ (decode cX1_shortenFirst 48 = .ok (.iload_n 2, 1)) ∧ (decode cX1_shortenFirst 49 = .ok (.iload_n 3, 1)) ∧ (decode cX1_shortenFirst 50 = .ok (.invokevirtual 60, 3)) ∧ (decode cX1_shortenFirst 53 = .ok (.iconst 1, 1)) := by decide +kernel
theorem dX1_shortenFirst_28 : decode cX1_shortenFirst 28 = .ok (.if_icmp .ne 7, 3) := bdX1_shortenFirst_28.1
theorem dX1_shortenFirst_31 : decode cX1_shortenFirst 31 = .ok (.iconst 0, 1) := bdX1_shortenFirst_28.2.1
theorem dX1_shortenFirst_32 : decode cX1_shortenFirst 32 = .ok (.goto 9, 3) := bdX1_shortenFirst_28.2.2.1
theorem dX1_shortenFirst_35 : decode cX1_shortenFirst 35 = .ok (.aload_n 0, 1) := bdX1_shortenFirst_28.2.2.2.1
theorem dX1_shortenFirst_36 : decode cX1_shortenFirst 36 = .ok (.iload_n 1, 1) := bdX1_shortenFirst_28.2.2.2.2.1
theorem dX1_shortenFirst_37 : decode cX1_shortenFirst 37 = .ok (.iload_n 2, 1) := bdX1_shortenFirst_28.2.2.2.2.2.1
theorem dX1_shortenFirst_38 : decode cX1_shortenFirst 38 = .ok (.invokevirtual 56, 3) := bdX1_shortenFirst_28.2.2.2.2.2.2.1
theorem dX1_shortenFirst_41 : decode cX1_shortenFirst 41 = .ok (.istore_n 3, 1) := bdX1_shortenFirst_28.2.2.2.2.2.2.2.1
theorem dX1_shortenFirst_42 : decode cX1_shortenFirst 42 = .ok (.iload_n 3, 1) := bdX1_shortenFirst_28.2.2.2.2.2.2.2.2.1
theorem dX1_shortenFirst_43 : decode cX1_shortenFirst 43 = .ok (.ifCond .eq 12, 3) := bdX1_shortenFirst_28.2.2.2.2.2.2.2.2.2.1
theorem dX1_shortenFirst_46 : decode cX1_shortenFirst 46 = .ok (.aload_n 0, 1) := bdX1_shortenFirst_28.2.2.2.2.2.2.2.2.2.2.1
theorem dX1_shortenFirst_47 : decode cX1_shortenFirst 47 = .ok (.iload_n 1, 1) := bdX1_shortenFirst_28.2.2.2.2.2.2.2.2.2.2.2.1
theorem dX1_shortenFirst_48 : decode cX1_shortenFirst 48 = .ok (.iload_n 2, 1) := bdX1_shortenFirst_28.2.2.2.2.2.2.2.2.2.2.2.2.1
theorem dX1_shortenFirst_49 : decode cX1_shortenFirst 49 = .ok (.iload_n 3, 1) := bdX1_shortenFirst_28.2.2.2.2.2.2.2.2.2.2.2.2.2.1
theorem dX1_shortenFirst_50 : decode cX1_shortenFirst 50 = .ok (.invokevirtual 60, 3) := bdX1_shortenFirst_28.2.2.2.2.2.2.2.2.2.2.2.2.2.2.1
theorem dX1_shortenFirst_53 : decode cX1_shortenFirst 53 = .ok (.iconst 1, 1) := bdX1_shortenFirst_28.2.2.2.2.2.2.2.2.2.2.2.2.2.2.2
theorem bdX1_shortenFirst_54 : (decode cX1_shortenFirst 54 = .ok (.ireturn, 1)) ∧ (decode cX1_shortenFirst 55 = .ok (.iinc 2 1, 3)) ∧ (decode cX1_shortenFirst 58 = .ok (.goto (-43), 3)) ∧ (decode cX1_shortenFirst 61 = .ok (.iinc 1 1, 3)) ∧ (decode cX1_shortenFirst 64 = .ok (.goto (-62), 3)) ∧ (decode cX1_shortenFirst 67 = .ok (.iconst 0, 1)) ∧ (decode cX1_shortenFirst 68 = .ok (.ireturn, 1)) := by decide +kernel
theorem dX1_shortenFirst_54 : decode cX1_shortenFirst 54 = .ok (.ireturn, 1) := bdX1_shortenFirst_54.1
theorem dX1_shortenFirst_55 : decode cX1_shortenFirst 55 = .ok (.iinc 2 1, 3) := bdX1_shortenFirst_54.2.1
theorem dX1_shortenFirst_58 : decode cX1_shortenFirst 58 = .ok (.goto (-43), 3) := bdX1_shortenFirst_54.2.2.1
theorem dX1_shortenFirst_61 : decode cX1_shortenFirst 61 = .ok (.iinc 1 1, 3) := bdX1_shortenFirst_54.2.2.2.1
theorem dX1_shortenFirst_64 : decode cX1_shortenFirst 64 = .ok (.goto (-62), 3) := bdX1_shortenFirst_54.2.2.2.2.1
theorem dX1_shortenFirst_67 : decode cX1_shortenFirst 67 = .ok (.iconst 0, 1) := bdX1_shortenFirst_54.2.2.2.2.2.1
theorem dX1_shortenFirst_68 : decode cX1_shortenFirst 68 = .ok (.ireturn, 1) := bdX1_shortenFirst_54.2.2.2.2.2.2
set_option maxHeartbeats 4000000 in
set_option maxRecDepth 100000 in
theorem k_X1_shortenFirst (l : Launch) (dC : Nat → ClassId) (dI : Nat → Nat → Nat) (h : Nat → Nat) (cs : Nat → ClassId) (sz : Nat) (I : Nat → Int32) (L : Nat → Int64) (A : Nat → Nat → Int32) (Q : Nat → Nat → Int64) (G : Nat → Nat → Nat → Int32) (J : Nat → Nat → Nat → Int64) (R M : Nat) (hR : I 120 = nI R) (hR1 : 1 ≤ R) (hR5 : R ≤ 5) (hM : I 121 = nI M) (hM1 : 1 ≤ M) (hM4 : M ≤ 4) : Met l yX1_shortenFirst wsX1_shortenFirst ({ frames := 2, cells := 0, slots := 0, locals := 85 }) (va_Pc [.ref (h 108)] (xPre (dC, dI) (wLead h cs I L A Q G J) (tysA cs) sz)) (va_Qi (fun (r : Int32) (u : CS) => ∃ g2 : Nat → Nat → Int32, ∃ g3 : Nat → Nat → Int32, (r = nI 0 ∨ r = nI 1) ∧ u = (I, L, A, Q, (va_up (va_up G 2 g2) 3 g3), J)) (xB (dC, dI) (tysA cs) (va_A (wLead h cs I L A Q G J) sz) (fun u : CS => wLead h cs u.1 u.2.1 u.2.2.1 u.2.2.2.1 u.2.2.2.2.1 u.2.2.2.2.2)) (va_A (wLead h cs I L A Q G J) sz)) 0 0 (va_A (wLead h cs I L A Q G J) sz) := by
  refine Met.ofW (cc := cX1_shortenFirst) (maxL := 4) (ret := (some .boolean)) (by decide) rfl ?_
  intro p e s m args below meth c s₁ B hml hv
  obtain ⟨rfl, hsz, hP, hK, hD0, hN⟩ := hv
  have hx := B.exec
  have hb := B.bytes
  have hr := B.returns
  have hts := atoms_spec (ws := wsX1_shortenFirst) B.pre
  have hown : s.vm.findClass RX1 = some m.cls := findClass_of_methodNamed B.named
  have hlocks := B.notSynchronized
  subst hsz
  have hD := hD0.self (sz := s.heap.size)
  generalize hAe : va_A (wLead h cs I L A Q G J) s.heap.size = A0 at hD ⊢
  have hA : ∀ q : Nat, s.heap.size ≤ q → A0 q := fun q h => by rw [← hAe]; exact Or.inr h
  have hl := lv_entry ([.ref (h 108)]) (n := 4) (Nat.le_of_ble_eq_true rfl)
  rw [lg_entry_eq]
  generalize (lg_sl ([.ref (h 108)]) ++ List.replicate (4 - (lg_sl ([.ref (h 108)])).length) Slot.unset).toArray = ls at hl ⊢
  have hl : lv_has ls 4 [(0, .ref (h 108))] := hl
  generalize hH : s.heap = H at hP ⊢
  have hS : va_S A0 s.heap H [] := by rw [← hH]; exact va_S.rf
  have hinX1 : ∀ w ∈ wsX10, w ∈ wsX1_shortenFirst := by decide +kernel
  have hinX3 : ∀ w ∈ wsX30, w ∈ wsX1_shortenFirst := by decide +kernel
  refine lv_iconst (v := nI 0) hx hb dX1_shortenFirst_0 (by decide) ?_
  refine lv_istore_n (lv' := [(1, .int (nI 0)), (0, .ref (h 108))]) hx hb dX1_shortenFirst_1 rfl hl (by decide) rfl (fun ls hl => ?_)
  have cut_2 : ∀ (nf : Nat) (n : Nat), (M - n) < nf → (n ≤ M) → ∀ (H : Heap) (locs : List Loc) (ls : Array Slot), va_P (dC, dI) vwCl (wLead h cs I L A Q G J) H → va_D A0 (wLead h cs I L A Q G J) → va_S A0 s.heap H locs → lv_has ls 4 [(0, .ref (h 108)), (1, .int (nI n))] → W p l e (headSpec wsX1_shortenFirst ({ frames := 2, cells := 0, slots := 0, locals := 85 })).room s m ([.ref (h 108)] : List Value).toArray below meth c H locs 0 0 (MQ below (va_Qi (fun (r : Int32) (u : CS) => ∃ g2 : Nat → Nat → Int32, ∃ g3 : Nat → Nat → Int32, (r = nI 0 ∨ r = nI 1) ∧ u = (I, L, A, Q, (va_up (va_up G 2 g2) 3 g3), J)) (xB (dC, dI) (tysA cs) A0 (fun u : CS => wLead h cs u.1 u.2.1 u.2.2.1 u.2.2.2.1 u.2.2.2.2.1 u.2.2.2.2.2)) A0) ([.ref (h 108)] : List Value).toArray s 0 0 A0) (F0 m 2 ls []) := by
    intro nf
    induction nf with
    | zero => intro n hm; exact absurd hm (Nat.not_lt_zero _)
    | succ nf ih_2 =>
      intro n hm_2 hn2 H locs ls hP hD hS hl
      refine lv_iload_n hx hb dX1_shortenFirst_2 rfl (lv_at hl 1 rfl) ?_
      refine lv_aload_n hx hb dX1_shortenFirst_3 rfl (lv_at hl 0 rfl) ?_
      refine va_get (D := (dC, dI)) (ci := 1) (v := .ref (h 101)) (C := RX1) (T := TX1) (N := 6) hx hb hts hinX1 hown hK hP 0 rfl rfl 0 (by decide) (hts (.fieldLink RX1 27 "MixedWords$Leader" "mix" "LMixedWords$Mix;") (by decide +kernel)) (fun _ h9 => h9) rfl dX1_shortenFirst_4 ?_
      refine va_get (D := (dC, dI)) (ci := 3) (v := .int (I 121)) (C := RX3) (T := TX3) (N := 6) hx hb hts hinX3 hown hK hP 13 rfl rfl 1 (by decide) (hts (.fieldLink RX1 53 "MixedWords$Mix" "width" "I") (by decide +kernel)) (fun _ h9 => h9) rfl dX1_shortenFirst_7 ?_
      refine xt_i (y := nI M) (hM) ?_
      refine xn_ge (tgt := 67) hx hb dX1_shortenFirst_10 (by decide) (by omega) (by omega) (fun c_10_0 => ?_) (fun c_10_0 => ?_)
      · skip
        refine lv_iconst (v := nI 0) hx hb dX1_shortenFirst_67 (by decide) ?_
        exact xr_z (v := (nI 0)) hx hb hr hlocks hK hS dX1_shortenFirst_68 (rfl) (I, L, A, Q, (va_up (va_up G 2 (G 2)) 3 (G 3)), J) ⟨(G 2), (G 3), (Or.inl rfl), rfl⟩ hP hD
      · skip
        refine lv_iconst (v := nI 0) hx hb dX1_shortenFirst_13 (by decide) ?_
        refine lv_istore_n (lv' := [(2, .int (nI 0)), (0, .ref (h 108)), (1, .int (nI n))]) hx hb dX1_shortenFirst_14 rfl hl (by decide) rfl (fun ls hl => ?_)
        have cut_15 : ∀ (nf : Nat) (k : Nat), (M - k) < nf → (k ≤ M) → ∀ (H : Heap) (locs : List Loc) (ls : Array Slot), va_P (dC, dI) vwCl (wLead h cs I L A Q G J) H → va_D A0 (wLead h cs I L A Q G J) → va_S A0 s.heap H locs → lv_has ls 4 [(0, .ref (h 108)), (1, .int (nI n)), (2, .int (nI k))] → W p l e (headSpec wsX1_shortenFirst ({ frames := 2, cells := 0, slots := 0, locals := 85 })).room s m ([.ref (h 108)] : List Value).toArray below meth c H locs 0 0 (MQ below (va_Qi (fun (r : Int32) (u : CS) => ∃ g2 : Nat → Nat → Int32, ∃ g3 : Nat → Nat → Int32, (r = nI 0 ∨ r = nI 1) ∧ u = (I, L, A, Q, (va_up (va_up G 2 g2) 3 g3), J)) (xB (dC, dI) (tysA cs) A0 (fun u : CS => wLead h cs u.1 u.2.1 u.2.2.1 u.2.2.2.1 u.2.2.2.2.1 u.2.2.2.2.2)) A0) ([.ref (h 108)] : List Value).toArray s 0 0 A0) (F0 m 15 ls []) := by
          intro nf
          induction nf with
          | zero => intro k hm; exact absurd hm (Nat.not_lt_zero _)
          | succ nf ih_15 =>
            intro k hm_15 hk15 H locs ls hP hD hS hl
            refine lv_iload_n hx hb dX1_shortenFirst_15 rfl (lv_at hl 2 rfl) ?_
            refine lv_aload_n hx hb dX1_shortenFirst_16 rfl (lv_at hl 0 rfl) ?_
            refine va_get (D := (dC, dI)) (ci := 1) (v := .ref (h 101)) (C := RX1) (T := TX1) (N := 6) hx hb hts hinX1 hown hK hP 0 rfl rfl 0 (by decide) (hts (.fieldLink RX1 27 "MixedWords$Leader" "mix" "LMixedWords$Mix;") (by decide +kernel)) (fun _ h9 => h9) rfl dX1_shortenFirst_17 ?_
            refine va_get (D := (dC, dI)) (ci := 3) (v := .int (I 121)) (C := RX3) (T := TX3) (N := 6) hx hb hts hinX3 hown hK hP 13 rfl rfl 1 (by decide) (hts (.fieldLink RX1 53 "MixedWords$Mix" "width" "I") (by decide +kernel)) (fun _ h9 => h9) rfl dX1_shortenFirst_20 ?_
            refine xt_i (y := nI M) (hM) ?_
            refine xn_ge (tgt := 61) hx hb dX1_shortenFirst_23 (by decide) (by omega) (by omega) (fun c_23_1 => ?_) (fun c_23_1 => ?_)
            · skip
              refine lv_iinc (v := nI (n + 1)) (lv' := [(1, .int (nI (n + 1))), (0, .ref (h 108)), (2, .int (nI k))]) hx hb dX1_shortenFirst_61 hl (k := 1) rfl (nI_1 _) (by decide) rfl (fun ls hl => ?_)
              refine lv_goto (tgt := 2) hx hb dX1_shortenFirst_64 (by decide) ?_
              exact ih_2 (n + 1) (by omega) (by first | assumption | omega) _ _ _ hP hD hS (lv_sub hl [1, 0] rfl)
            · skip
              refine lv_iload_n hx hb dX1_shortenFirst_26 rfl (lv_at hl 1 rfl) ?_
              refine lv_iload_n hx hb dX1_shortenFirst_27 rfl (lv_at hl 2 rfl) ?_
              refine xn_ne (tgt := 35) hx hb dX1_shortenFirst_28 (by decide) (by omega) (by omega) (fun c_28_2 => ?_) (fun c_28_2 => ?_)
              · skip
                refine lv_aload_n hx hb dX1_shortenFirst_35 rfl (lv_at hl 0 rfl) ?_
                refine lv_iload_n hx hb dX1_shortenFirst_36 rfl (lv_at hl 1 rfl) ?_
                refine lv_iload_n hx hb dX1_shortenFirst_37 rfl (lv_at hl 2 rfl) ?_
                refine xj_i (wc := (wLead h cs I L A Q G J)) (wr := ([] : va_W)) hP hD hS hA [0, 1, 2, 3, 4, 5, 6, 7, 8, 9, 10, 11, 12, 13, 14, 15, 16, 17, 18, 19, 20] [] rfl rfl (by decide) (by decide) (va_runV (As := [.int (nI n), .int (nI k)]) (rest := []) ⟨hx, hb, hml, hown, hts⟩ (k_X1_quotient l dC dI h cs H.size I L A Q G J n k R M (by first | assumption | omega) (by first | assumption | omega) hR (by first | assumption | omega | exact hR1) (by first | assumption | omega | exact hR5) hM (by first | assumption | omega | exact hM1) (by first | assumption | omega | exact hM4)) (cwV 2 hts gX1_shortenFirst_X1_quotient rfl rfl rfl (by decide +kernel) ⟨Nat.le_of_ble_eq_true rfl, Nat.le_of_ble_eq_true rfl⟩) (xpV (wc := (wLead h cs I L A Q G J)) hP hD hK hN [0, 1, 2, 3, 4, 5, 6, 7, 8, 9, 10, 11, 12, 13, 14, 15, 16, 17, 18, 19, 20] rfl (by decide) 0 (ci := 1) rfl rfl _) rfl rfl hl.1 rfl (lv_room (Nat.le_of_ble_eq_true rfl)) dX1_shortenFirst_38 ⟨Nat.zero_le _, Nat.zero_le _⟩) (fun r_5 u_4 H locs hw hP hD hS => ?_)
                obtain ⟨hf_6, rfl⟩ := hw
                have hP : va_P (dC, dI) vwCl (wLead h cs I L A Q G J) H := hP
                have hD : va_D A0 (wLead h cs I L A Q G J) := hD
                refine lv_istore_n (lv' := [(3, .int r_5), (0, .ref (h 108)), (1, .int (nI n)), (2, .int (nI k))]) hx hb dX1_shortenFirst_41 rfl hl (by decide) rfl (fun ls hl => ?_)
                refine lv_iload_n hx hb dX1_shortenFirst_42 rfl (lv_at hl 0 rfl) ?_
                refine lv_if_eq (tgt := 55) hx hb dX1_shortenFirst_43 (by decide) (fun c_43_6 => ?_) (fun c_43_6 => ?_)
                · skip
                  refine lv_iinc (v := nI (k + 1)) (lv' := [(2, .int (nI (k + 1))), (3, .int r_5), (0, .ref (h 108)), (1, .int (nI n))]) hx hb dX1_shortenFirst_55 hl (k := 3) rfl (nI_1 _) (by decide) rfl (fun ls hl => ?_)
                  refine lv_goto (tgt := 15) hx hb dX1_shortenFirst_58 (by decide) ?_
                  exact ih_15 (k + 1) (by omega) (by first | assumption | omega) _ _ _ hP hD hS (lv_sub hl [2, 3, 0] rfl)
                · skip
                  refine lv_aload_n hx hb dX1_shortenFirst_46 rfl (lv_at hl 1 rfl) ?_
                  refine lv_iload_n hx hb dX1_shortenFirst_47 rfl (lv_at hl 2 rfl) ?_
                  refine lv_iload_n hx hb dX1_shortenFirst_48 rfl (lv_at hl 3 rfl) ?_
                  refine lv_iload_n hx hb dX1_shortenFirst_49 rfl (lv_at hl 0 rfl) ?_
                  refine xj_v (wc := (wLead h cs I L A Q G J)) (wr := ([] : va_W)) hP hD hS hA [0, 1, 2, 3, 4, 5, 6, 7, 8, 9, 10, 11, 12, 13, 14, 15, 16, 17, 18, 19, 20] [] rfl rfl (by decide) (by decide) (va_runV (As := [.int (nI n), .int (nI k), .int r_5]) (rest := []) ⟨hx, hb, hml, hown, hts⟩ (k_X1_shorten l dC dI h cs H.size I L A Q G J n k r_5 R M (by first | assumption | omega) (by first | assumption | omega) hR (by first | assumption | omega | exact hR1) (by first | assumption | omega | exact hR5) hM (by first | assumption | omega | exact hM1) (by first | assumption | omega | exact hM4)) (cwV 3 hts gX1_shortenFirst_X1_shorten rfl rfl rfl (by decide +kernel) ⟨Nat.le_of_ble_eq_true rfl, Nat.le_of_ble_eq_true rfl⟩) (xpV (wc := (wLead h cs I L A Q G J)) hP hD hK hN [0, 1, 2, 3, 4, 5, 6, 7, 8, 9, 10, 11, 12, 13, 14, 15, 16, 17, 18, 19, 20] rfl (by decide) 0 (ci := 1) rfl rfl _) rfl rfl hl.1 rfl (lv_room (Nat.le_of_ble_eq_true rfl)) dX1_shortenFirst_50 ⟨Nat.zero_le _, Nat.zero_le _⟩) (fun u_8 H locs hw hP hD hS => ?_)
                  obtain ⟨g2_10, g3_11, hf_12, rfl⟩ := hw
                  have hP : va_P (dC, dI) vwCl (wLead h cs I L A Q (va_up (va_up G 2 g2_10) 3 g3_11) J) H := hP
                  have hD : va_D A0 (wLead h cs I L A Q (va_up (va_up G 2 g2_10) 3 g3_11) J) := hD
                  refine lv_iconst (v := nI 1) hx hb dX1_shortenFirst_53 (by decide) ?_
                  exact xr_z (v := (nI 1)) hx hb hr hlocks hK hS dX1_shortenFirst_54 (rfl) (I, L, A, Q, (va_up (va_up G 2 g2_10) 3 g3_11), J) ⟨g2_10, g3_11, (Or.inr rfl), rfl⟩ hP hD
              · skip
                refine lv_iconst (v := nI 0) hx hb dX1_shortenFirst_31 (by decide) ?_
                refine lv_goto (tgt := 41) hx hb dX1_shortenFirst_32 (by decide) ?_
                refine lv_istore_n (lv' := [(3, .int (nI 0)), (0, .ref (h 108)), (1, .int (nI n)), (2, .int (nI k))]) hx hb dX1_shortenFirst_41 rfl hl (by decide) rfl (fun ls hl => ?_)
                refine lv_iload_n hx hb dX1_shortenFirst_42 rfl (lv_at hl 0 rfl) ?_
                refine lv_if_eq (tgt := 55) hx hb dX1_shortenFirst_43 (by decide) (fun _ => ?_) (fun c9 => False.elim (by revert c9; decide +kernel))
                refine lv_iinc (v := nI (k + 1)) (lv' := [(2, .int (nI (k + 1))), (3, .int (nI 0)), (0, .ref (h 108)), (1, .int (nI n))]) hx hb dX1_shortenFirst_55 hl (k := 3) rfl (nI_1 _) (by decide) rfl (fun ls hl => ?_)
                refine lv_goto (tgt := 15) hx hb dX1_shortenFirst_58 (by decide) ?_
                exact ih_15 (k + 1) (by omega) (by first | assumption | omega) _ _ _ hP hD hS (lv_sub hl [2, 3, 0] rfl)
        exact cut_15 _ 0 (Nat.lt_succ_self _) (by first | assumption | omega) _ _ _ hP hD hS (lv_sub hl [1, 2, 0] rfl)
  exact cut_2 _ 0 (Nat.lt_succ_self _) (by first | assumption | omega) _ _ _ hP hD hS (lv_sub hl [1, 0] rfl)
