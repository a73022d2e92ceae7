theorem bdX10_nearestLetter_0 : (decode cX10_nearestLetter 0 = .ok (.iconst 1, 1)) ∧ (decode cX10_nearestLetter 1 = .ok (.aload_n 0, 1)) ∧ (decode cX10_nearestLetter 2 = .ok (.getfield 16, 3)) ∧ (decode cX10_nearestLetter 5 = .ok (.isub, 1)) ∧ (decode cX10_nearestLetter 6 = .ok (.istore 5, 2)) ∧ (decode cX10_nearestLetter 8 = .ok (.iconst 3, 1)) ∧ (decode cX10_nearestLetter 9 = .ok (.aload_n 0, 1)) ∧ (decode cX10_nearestLetter 10 = .ok (.getfield 16, 3)) ∧ (decode cX10_nearestLetter 13 = .ok (.isub, 1)) ∧ (decode cX10_nearestLetter 14 = .ok (.istore 6, 2)) ∧ (decode cX10_nearestLetter 16 = .ok (.iload 6, 2)) ∧ (decode cX10_nearestLetter 18 = .ok (.aload_n 0, 1)) ∧ (decode cX10_nearestLetter 19 = .ok (.getfield 16, 3)) ∧ (decode cX10_nearestLetter 22 = .ok (.if_icmp .ge 72, 3)) ∧ (decode cX10_nearestLetter 25 = .ok (.lload_n 1, 1)) ∧ (decode cX10_nearestLetter 26 = .ok (.iload 6, 2)) := by decide +kernel
theorem dX10_nearestLetter_0 : decode cX10_nearestLetter 0 = .ok (.iconst 1, 1) := bdX10_nearestLetter_0.1
theorem dX10_nearestLetter_1 : decode cX10_nearestLetter 1 = .ok (.aload_n 0, 1) := bdX10_nearestLetter_0.2.1
theorem dX10_nearestLetter_2 : decode cX10_nearestLetter 2 = .ok (.getfield 16, 3) := bdX10_nearestLetter_0.2.2.1
theorem dX10_nearestLetter_5 : decode cX10_nearestLetter 5 = .ok (.isub, 1) := bdX10_nearestLetter_0.2.2.2.1
theorem dX10_nearestLetter_6 : decode cX10_nearestLetter 6 = .ok (.istore 5, 2) := bdX10_nearestLetter_0.2.2.2.2.1
theorem dX10_nearestLetter_8 : decode cX10_nearestLetter 8 = .ok (.iconst 3, 1) := bdX10_nearestLetter_0.2.2.2.2.2.1
theorem dX10_nearestLetter_9 : decode cX10_nearestLetter 9 = .ok (.aload_n 0, 1) := bdX10_nearestLetter_0.2.2.2.2.2.2.1
theorem dX10_nearestLetter_10 : decode cX10_nearestLetter 10 = .ok (.getfield 16, 3) := bdX10_nearestLetter_0.2.2.2.2.2.2.2.1
theorem dX10_nearestLetter_13 : decode cX10_nearestLetter 13 = .ok (.isub, 1) := bdX10_nearestLetter_0.2.2.2.2.2.2.2.2.1
theorem dX10_nearestLetter_14 : decode cX10_nearestLetter 14 = .ok (.istore 6, 2) := bdX10_nearestLetter_0.2.2.2.2.2.2.2.2.2.1
theorem dX10_nearestLetter_16 : decode cX10_nearestLetter 16 = .ok (.iload 6, 2) := bdX10_nearestLetter_0.2.2.2.2.2.2.2.2.2.2.1
theorem dX10_nearestLetter_18 : decode cX10_nearestLetter 18 = .ok (.aload_n 0, 1) := bdX10_nearestLetter_0.2.2.2.2.2.2.2.2.2.2.2.1
theorem dX10_nearestLetter_19 : decode cX10_nearestLetter 19 = .ok (.getfield 16, 3) := bdX10_nearestLetter_0.2.2.2.2.2.2.2.2.2.2.2.2.1
theorem dX10_nearestLetter_22 : decode cX10_nearestLetter 22 = .ok (.if_icmp .ge 72, 3) := bdX10_nearestLetter_0.2.2.2.2.2.2.2.2.2.2.2.2.2.1
theorem dX10_nearestLetter_25 : decode cX10_nearestLetter 25 = .ok (.lload_n 1, 1) := bdX10_nearestLetter_0.2.2.2.2.2.2.2.2.2.2.2.2.2.2.1
theorem dX10_nearestLetter_26 : decode cX10_nearestLetter 26 = .ok (.iload 6, 2) := bdX10_nearestLetter_0.2.2.2.2.2.2.2.2.2.2.2.2.2.2.2
theorem bdX10_nearestLetter_28 : (decode cX10_nearestLetter 28 = .ok (.i2l, 1)) ∧ (decode cX10_nearestLetter 29 = .ok (.lload_n 3, 1)) ∧ (decode cX10_nearestLetter 30 = .ok (.lmul, 1)) ∧ (decode cX10_nearestLetter 31 = .ok (.lsub, 1)) ∧ (decode cX10_nearestLetter 32 = .ok (.lstore 7, 2)) ∧ (decode cX10_nearestLetter 34 = .ok (.lload_n 1, 1)) ∧ (decode cX10_nearestLetter 35 = .ok (.iload 5, 2)) ∧ (decode cX10_nearestLetter 37 = .ok (.i2l, 1)) ∧ (decode cX10_nearestLetter 38 = .ok (.lload_n 3, 1)) ∧ (decode cX10_nearestLetter 39 = .ok (.lmul, 1)) ∧ (decode cX10_nearestLetter 40 = .ok (.lsub, 1)) ∧ (decode cX10_nearestLetter 41 = .ok (.lstore 9, 2)) ∧ (decode cX10_nearestLetter 43 = .ok (.lload 7, 2)) ∧ (decode cX10_nearestLetter 45 = .ok (.lconst 0, 1)) ∧ (decode cX10_nearestLetter 46 = .ok (.lcmp, 1)) ∧ (decode cX10_nearestLetter 47 = .ok (.ifCond .ge 10, 3)) := by decide +kernel
theorem dX10_nearestLetter_28 : decode cX10_nearestLetter 28 = .ok (.i2l, 1) := bdX10_nearestLetter_28.1
theorem dX10_nearestLetter_29 : decode cX10_nearestLetter 29 = .ok (.lload_n 3, 1) := bdX10_nearestLetter_28.2.1
theorem dX10_nearestLetter_30 : decode cX10_nearestLetter 30 = .ok (.lmul, 1) := bdX10_nearestLetter_28.2.2.1
theorem dX10_nearestLetter_31 : decode cX10_nearestLetter 31 = .ok (.lsub, 1) := bdX10_nearestLetter_28.2.2.2.1
theorem dX10_nearestLetter_32 : decode cX10_nearestLetter 32 = .ok (.lstore 7, 2) := bdX10_nearestLetter_28.2.2.2.2.1
theorem dX10_nearestLetter_34 : decode cX10_nearestLetter 34 = .ok (.lload_n 1, 1) := bdX10_nearestLetter_28.2.2.2.2.2.1
theorem dX10_nearestLetter_35 : decode cX10_nearestLetter 35 = .ok (.iload 5, 2) := bdX10_nearestLetter_28.2.2.2.2.2.2.1
theorem dX10_nearestLetter_37 : decode cX10_nearestLetter 37 = .ok (.i2l, 1) := bdX10_nearestLetter_28.2.2.2.2.2.2.2.1
theorem dX10_nearestLetter_38 : decode cX10_nearestLetter 38 = .ok (.lload_n 3, 1) := bdX10_nearestLetter_28.2.2.2.2.2.2.2.2.1
theorem dX10_nearestLetter_39 : decode cX10_nearestLetter 39 = .ok (.lmul, 1) := bdX10_nearestLetter_28.2.2.2.2.2.2.2.2.2.1
theorem dX10_nearestLetter_40 : decode cX10_nearestLetter 40 = .ok (.lsub, 1) := bdX10_nearestLetter_28.2.2.2.2.2.2.2.2.2.2.1
theorem dX10_nearestLetter_41 : decode cX10_nearestLetter 41 = .ok (.lstore 9, 2) := bdX10_nearestLetter_28.2.2.2.2.2.2.2.2.2.2.2.1
theorem dX10_nearestLetter_43 : decode cX10_nearestLetter 43 = .ok (.lload 7, 2) := bdX10_nearestLetter_28.2.2.2.2.2.2.2.2.2.2.2.2.1
theorem dX10_nearestLetter_45 : decode cX10_nearestLetter 45 = .ok (.lconst 0, 1) := bdX10_nearestLetter_28.2.2.2.2.2.2.2.2.2.2.2.2.2.1
theorem dX10_nearestLetter_46 : decode cX10_nearestLetter 46 = .ok (.lcmp, 1) := bdX10_nearestLetter_28.2.2.2.2.2.2.2.2.2.2.2.2.2.2.1
theorem dX10_nearestLetter_47 : decode cX10_nearestLetter 47 = .ok (.ifCond .ge 10, 3) := bdX10_nearestLetter_28.2.2.2.2.2.2.2.2.2.2.2.2.2.2.2
theorem bdX10_nearestLetter_50 : (decode cX10_nearestLetter 50 = .ok (.lconst 0, 1)) ∧ (decode cX10_nearestLetter 51 = .ok (.lload 7, 2)) ∧ (decode cX10_nearestLetter 53 = .ok (.lsub, 1)) ∧ (decode cX10_nearestLetter 54 = .ok (.goto 5, 3)) ∧ (decode cX10_nearestLetter 57 = .ok (.lload 7, 2)) ∧ (decode cX10_nearestLetter 59 = .ok (.lload 9, 2)) ∧ (decode cX10_nearestLetter 61 = .ok (.lconst 0, 1)) ∧ (decode cX10_nearestLetter 62 = .ok (.lcmp, 1)) ∧ (decode cX10_nearestLetter 63 = .ok (.ifCond .ge 10, 3)) ∧ (decode cX10_nearestLetter 66 = .ok (.lconst 0, 1)) ∧ (decode cX10_nearestLetter 67 = .ok (.lload 9, 2)) ∧ (decode cX10_nearestLetter 69 = .ok (.lsub, 1)) ∧ (decode cX10_nearestLetter 70 = .ok (.goto 5, 3)) ∧ (decode cX10_nearestLetter 73 = .ok (.lload 9, 2)) ∧ (decode cX10_nearestLetter 75 = .ok (.lcmp, 1)) ∧ (decode cX10_nearestLetter 76 = .ok (.ifCond .ge 8, 3)) := by decide +kernel
theorem dX10_nearestLetter_50 : decode cX10_nearestLetter 50 = .ok (.lconst 0, 1) := bdX10_nearestLetter_50.1
theorem dX10_nearestLetter_51 : decode cX10_nearestLetter 51 = .ok (.lload 7, 2) := bdX10_nearestLetter_50.2.1
theorem dX10_nearestLetter_53 : decode cX10_nearestLetter 53 = .ok (.lsub, 1) := bdX10_nearestLetter_50.2.2.1
theorem dX10_nearestLetter_54 : decode cX10_nearestLetter 54 = .ok (.goto 5, 3) := bdX10_nearestLetter_50.2.2.2.1
theorem dX10_nearestLetter_57 : decode cX10_nearestLetter 57 = .ok (.lload 7, 2) := bdX10_nearestLetter_50.2.2.2.2.1
theorem dX10_nearestLetter_59 : decode cX10_nearestLetter 59 = .ok (.lload 9, 2) := bdX10_nearestLetter_50.2.2.2.2.2.1
theorem dX10_nearestLetter_61 : decode cX10_nearestLetter 61 = .ok (.lconst 0, 1) := bdX10_nearestLetter_50.2.2.2.2.2.2.1
theorem dX10_nearestLetter_62 : decode cX10_nearestLetter 62 = .ok (.lcmp, 1) := bdX10_nearestLetter_50.2.2.2.2.2.2.2.1
theorem dX10_nearestLetter_63 : decode cX10_nearestLetter 63 = .ok (.ifCond .ge 10, 3) := bdX10_nearestLetter_50.2.2.2.2.2.2.2.2.1
theorem dX10_nearestLetter_66 : decode cX10_nearestLetter 66 = .ok (.lconst 0, 1) := bdX10_nearestLetter_50.2.2.2.2.2.2.2.2.2.1
theorem dX10_nearestLetter_67 : decode cX10_nearestLetter 67 = .ok (.lload 9, 2) := bdX10_nearestLetter_50.2.2.2.2.2.2.2.2.2.2.1
theorem dX10_nearestLetter_69 : decode cX10_nearestLetter 69 = .ok (.lsub, 1) := bdX10_nearestLetter_50.2.2.2.2.2.2.2.2.2.2.2.1
theorem dX10_nearestLetter_70 : decode cX10_nearestLetter 70 = .ok (.goto 5, 3) := bdX10_nearestLetter_50.2.2.2.2.2.2.2.2.2.2.2.2.1
theorem dX10_nearestLetter_73 : decode cX10_nearestLetter 73 = .ok (.lload 9, 2) := bdX10_nearestLetter_50.2.2.2.2.2.2.2.2.2.2.2.2.2.1
theorem dX10_nearestLetter_75 : decode cX10_nearestLetter 75 = .ok (.lcmp, 1) := bdX10_nearestLetter_50.2.2.2.2.2.2.2.2.2.2.2.2.2.2.1
theorem dX10_nearestLetter_76 : decode cX10_nearestLetter 76 = .ok (.ifCond .ge 8, 3) := bdX10_nearestLetter_50.2.2.2.2.2.2.2.2.2.2.2.2.2.2.2
theorem bdX10_nearestLetter_79 : (decode cX10_nearestLetter 79 = .ok (.iload 6, 2)) ∧ (decode cX10_nearestLetter 81 = .ok (.goto 5, 3)) ∧ (decode cX10_nearestLetter 84 = .ok (.iload 5, 2)) ∧ (decode cX10_nearestLetter 86 = .ok (.istore 5, 2)) ∧ (decode cX10_nearestLetter 88 = .ok (.iinc 6 2, 3)) ∧ (decode cX10_nearestLetter 91 = .ok (.goto (-75), 3)) ∧ (decode cX10_nearestLetter 94 = .ok (.iload 5, 2)) ∧ (decode cX10_nearestLetter 96 = .ok (.ireturn, 1)) := by decide +kernel
theorem dX10_nearestLetter_79 : decode cX10_nearestLetter 79 = .ok (.iload 6, 2) := bdX10_nearestLetter_79.1
theorem dX10_nearestLetter_81 : decode cX10_nearestLetter 81 = .ok (.goto 5, 3) := bdX10_nearestLetter_79.2.1
theorem dX10_nearestLetter_84 : decode cX10_nearestLetter 84 = .ok (.iload 5, 2) := bdX10_nearestLetter_79.2.2.1
theorem dX10_nearestLetter_86 : decode cX10_nearestLetter 86 = .ok (.istore 5, 2) := bdX10_nearestLetter_79.2.2.2.1
theorem dX10_nearestLetter_88 : decode cX10_nearestLetter 88 = .ok (.iinc 6 2, 3) := bdX10_nearestLetter_79.2.2.2.2.1
theorem dX10_nearestLetter_91 : decode cX10_nearestLetter 91 = .ok (.goto (-75), 3) := bdX10_nearestLetter_79.2.2.2.2.2.1
theorem dX10_nearestLetter_94 : decode cX10_nearestLetter 94 = .ok (.iload 5, 2) := bdX10_nearestLetter_79.2.2.2.2.2.2.1
theorem dX10_nearestLetter_96 : decode cX10_nearestLetter 96 = .ok (.ireturn, 1) := bdX10_nearestLetter_79.2.2.2.2.2.2.2
set_option maxHeartbeats 4000000 in
set_option maxRecDepth 100000 in
theorem k_X10_nearestLetter (l : Launch) (dC : Nat → ClassId) (dI : Nat → Nat → Nat) (h : Nat → Nat) (cs : Nat → ClassId) (sz : Nat) (I : Nat → Int32) (L : Nat → Int64) (A : Nat → Nat → Int32) (Q : Nat → Nat → Int64) (up low : Int64) (a : Nat) (ha : I 2 = nI a) (ha2 : a = 2 ∨ a = 4) : Met l yX10_nearestLetter wsX10_nearestLetter ({ frames := 0, cells := 0, slots := 0, locals := 0 }) (va_Pc [.ref (h 0), .long up, .long low] (xPre (dC, dI) (rW h cs I L A Q) (tysA cs) sz)) (va_Qi (fun (r : Int32) (u : RS) => (r = nlG up low a (a - 1)) ∧ u = (I, L, A, Q)) (xB (dC, dI) (tysA cs) (va_A (rW h cs I L A Q) sz) (fun u : RS => rW h cs u.1 u.2.1 u.2.2.1 u.2.2.2)) (va_A (rW h cs I L A Q) sz)) 0 0 (va_A (rW h cs I L A Q) sz) := by
  refine Met.ofW (cc := cX10_nearestLetter) (maxL := 11) (ret := (some .int)) (by decide) rfl ?_
  intro p e s m args below meth c s₁ B hml hv
  obtain ⟨rfl, hsz, hP, hK, hD0, hN⟩ := hv
  have hx := B.exec
  have hb := B.bytes
  have hr := B.returns
  have hts := atoms_spec (ws := wsX10_nearestLetter) B.pre
  have hown : s.vm.findClass RX10 = some m.cls := findClass_of_methodNamed B.named
  have hlocks := B.notSynchronized
  subst hsz
  have hD := hD0.self (sz := s.heap.size)
  generalize hAe : va_A (rW h cs I L A Q) s.heap.size = A0 at hD ⊢
  have hA : ∀ q : Nat, s.heap.size ≤ q → A0 q := fun q h => by rw [← hAe]; exact Or.inr h
  have hl := lv_entry ([.ref (h 0), .long up, .long low]) (n := 11) (Nat.le_of_ble_eq_true rfl)
  rw [lg_entry_eq]
  generalize (lg_sl ([.ref (h 0), .long up, .long low]) ++ List.replicate (11 - (lg_sl ([.ref (h 0), .long up, .long low])).length) Slot.unset).toArray = ls at hl ⊢
  have hl : lv_has ls 11 [(0, .ref (h 0)), (1, .long up), (3, .long low)] := hl
  generalize hH : s.heap = H at hP ⊢
  have hS : va_S A0 s.heap H [] := by rw [← hH]; exact va_S.rf
  have hinX10 : ∀ w ∈ wsX100, w ∈ wsX10_nearestLetter := by decide +kernel
  refine lv_iconst (v := nI 1) hx hb dX10_nearestLetter_0 (by decide) ?_
  refine lv_aload_n hx hb dX10_nearestLetter_1 rfl (lv_at hl 0 rfl) ?_
  refine va_get (D := (dC, dI)) (ci := 10) (v := .int (I 2)) (C := RX10) (T := TX10) (N := 28) hx hb hts hinX10 hown hK hP 0 rfl rfl 2 (by decide) (hts (.fieldLink RX10 16 "MixedWordsModel" "a" "I") (by decide +kernel)) (fun _ h9 => h9) rfl dX10_nearestLetter_2 ?_
  refine xt_i (y := nI a) (ha) ?_
  refine lv_isub hx hb dX10_nearestLetter_5 ?_
  refine lv_istore (lv' := [(5, .int ((nI 1) - (nI a))), (0, .ref (h 0)), (1, .long up), (3, .long low)]) hx hb dX10_nearestLetter_6 hl (by decide) rfl (fun ls hl => ?_)
  refine lv_iconst (v := nI 3) hx hb dX10_nearestLetter_8 (by decide) ?_
  refine lv_aload_n hx hb dX10_nearestLetter_9 rfl (lv_at hl 1 rfl) ?_
  refine va_get (D := (dC, dI)) (ci := 10) (v := .int (I 2)) (C := RX10) (T := TX10) (N := 28) hx hb hts hinX10 hown hK hP 0 rfl rfl 2 (by decide) (hts (.fieldLink RX10 16 "MixedWordsModel" "a" "I") (by decide +kernel)) (fun _ h9 => h9) rfl dX10_nearestLetter_10 ?_
  refine xt_i (y := nI a) (ha) ?_
  refine lv_isub hx hb dX10_nearestLetter_13 ?_
  refine lv_istore (lv' := [(6, .int ((nI 3) - (nI a))), (5, .int ((nI 1) - (nI a))), (0, .ref (h 0)), (1, .long up), (3, .long low)]) hx hb dX10_nearestLetter_14 hl (by decide) rfl (fun ls hl => ?_)
  have cut_16 : ∀ (nf : Nat) (t6 : Nat) (b5 : Int32), (a - 1 - t6) < nf → (t6 ≤ 4) → (t6 ≤ a - 1) → (b5 = nlG up low a t6) → ∀ (H : Heap) (locs : List Loc) (ls : Array Slot), va_P (dC, dI) vwCl (rW h cs I L A Q) H → va_D A0 (rW h cs I L A Q) → va_S A0 s.heap H locs → lv_has ls 11 [(0, .ref (h 0)), (1, .long up), (3, .long low), (5, .int b5), (6, .int (nlL a t6))] → W p l e (headSpec wsX10_nearestLetter ({ frames := 0, cells := 0, slots := 0, locals := 0 })).room s m ([.ref (h 0), .long up, .long low] : List Value).toArray below meth c H locs 0 0 (MQ below (va_Qi (fun (r : Int32) (u : RS) => (r = nlG up low a (a - 1)) ∧ u = (I, L, A, Q)) (xB (dC, dI) (tysA cs) A0 (fun u : RS => rW h cs u.1 u.2.1 u.2.2.1 u.2.2.2)) A0) ([.ref (h 0), .long up, .long low] : List Value).toArray s 0 0 A0) (F0 m 16 ls []) := by
    intro nf
    induction nf with
    | zero => intro t6 b5 hm; exact absurd hm (Nat.not_lt_zero _)
    | succ nf ih_16 =>
      intro t6 b5 hm_16 ht_16 htl_16 hb_16 H locs ls hP hD hS hl
      refine lv_iload hx hb dX10_nearestLetter_16 (lv_at hl 4 rfl) ?_
      refine lv_aload_n hx hb dX10_nearestLetter_18 rfl (lv_at hl 0 rfl) ?_
      refine va_get (D := (dC, dI)) (ci := 10) (v := .int (I 2)) (C := RX10) (T := TX10) (N := 28) hx hb hts hinX10 hown hK hP 0 rfl rfl 2 (by decide) (hts (.fieldLink RX10 16 "MixedWordsModel" "a" "I") (by decide +kernel)) (fun _ h9 => h9) rfl dX10_nearestLetter_19 ?_
      refine xt_i (y := nI a) (ha) ?_
      refine lv_icmp_ge (tgt := 94) hx hb dX10_nearestLetter_22 (by decide) (fun c_22_0 => ?_) (fun c_22_0 => ?_)
      · skip
        have hge := nl_ge ha2 ht_16 c_22_0
        refine lv_iload hx hb dX10_nearestLetter_94 (lv_at hl 3 rfl) ?_
        exact xr_i (v := b5) hx hb hr hlocks hK hS dX10_nearestLetter_96 (I, L, A, Q) ⟨(by rw [hb_16, show a - 1 = t6 by omega]), rfl⟩ hP hD
      · skip
        have hlt := nl_lt ha2 ht_16 c_22_0
        refine lv_lload_n hx hb dX10_nearestLetter_25 rfl (lv_at hl 1 rfl) ?_
        refine lv_iload hx hb dX10_nearestLetter_26 (lv_at hl 4 rfl) ?_
        refine lv_i2l (v := (nlL a t6).toInt64) hx hb dX10_nearestLetter_28 rfl ?_
        refine lv_lload_n hx hb dX10_nearestLetter_29 rfl (lv_at hl 2 rfl) ?_
        refine lv_lmul hx hb dX10_nearestLetter_30 ?_
        refine lv_lsub hx hb dX10_nearestLetter_31 ?_
        refine lv_lstore (lv' := [(7, .long (up - (((nlL a t6).toInt64) * low))), (0, .ref (h 0)), (1, .long up), (3, .long low), (5, .int b5), (6, .int (nlL a t6))]) hx hb dX10_nearestLetter_32 hl (by decide) rfl (fun ls hl => ?_)
        refine lv_lload_n hx hb dX10_nearestLetter_34 rfl (lv_at hl 2 rfl) ?_
        refine lv_iload hx hb dX10_nearestLetter_35 (lv_at hl 4 rfl) ?_
        refine lv_i2l (v := b5.toInt64) hx hb dX10_nearestLetter_37 rfl ?_
        refine lv_lload_n hx hb dX10_nearestLetter_38 rfl (lv_at hl 3 rfl) ?_
        refine lv_lmul hx hb dX10_nearestLetter_39 ?_
        refine lv_lsub hx hb dX10_nearestLetter_40 ?_
        refine lv_lstore (lv' := [(9, .long (up - (b5.toInt64 * low))), (7, .long (up - (((nlL a t6).toInt64) * low))), (0, .ref (h 0)), (1, .long up), (3, .long low), (5, .int b5), (6, .int (nlL a t6))]) hx hb dX10_nearestLetter_41 hl (by decide) rfl (fun ls hl => ?_)
        refine lv_lload hx hb dX10_nearestLetter_43 (lv_at hl 1 rfl) ?_
        refine lv_lconst (v := 0) hx hb dX10_nearestLetter_45 rfl ?_
        refine xl_ge (tgt := 57) hx hb dX10_nearestLetter_46 dX10_nearestLetter_47 (by decide) (fun c_46_1 => ?_) (fun c_46_1 => ?_)
        · skip
          have e1 := absL_p (x := up - (((nlL a t6).toInt64) * low)) c_46_1
          refine lv_lload hx hb dX10_nearestLetter_57 (lv_at hl 1 rfl) ?_
          refine lv_lload hx hb dX10_nearestLetter_59 (lv_at hl 0 rfl) ?_
          refine lv_lconst (v := 0) hx hb dX10_nearestLetter_61 rfl ?_
          refine xl_ge (tgt := 73) hx hb dX10_nearestLetter_62 dX10_nearestLetter_63 (by decide) (fun c_62_2 => ?_) (fun c_62_2 => ?_)
          · skip
            have e2 := absL_p (x := up - (b5.toInt64 * low)) c_62_2
            refine lv_lload hx hb dX10_nearestLetter_73 (lv_at hl 0 rfl) ?_
            refine xl_ge (tgt := 84) hx hb dX10_nearestLetter_75 dX10_nearestLetter_76 (by decide) (fun c_75_3 => ?_) (fun c_75_3 => ?_)
            · skip
              refine lv_iload hx hb dX10_nearestLetter_84 (lv_at hl 5 rfl) ?_
              refine lv_istore (lv' := [(5, .int b5), (9, .long (up - (b5.toInt64 * low))), (7, .long (up - (((nlL a t6).toInt64) * low))), (0, .ref (h 0)), (1, .long up), (3, .long low), (6, .int (nlL a t6))]) hx hb dX10_nearestLetter_86 hl (by decide) rfl (fun ls hl => ?_)
              refine lv_iinc (v := nlL a (t6 + 1)) (lv' := [(6, .int (nlL a (t6 + 1))), (5, .int b5), (9, .long (up - (b5.toInt64 * low))), (7, .long (up - (((nlL a t6).toInt64) * low))), (0, .ref (h 0)), (1, .long up), (3, .long low)]) hx hb dX10_nearestLetter_88 hl (k := 6) rfl (nl_inc ha2 ht_16) (by decide) rfl (fun ls hl => ?_)
              refine lv_goto (tgt := 16) hx hb dX10_nearestLetter_91 (by decide) ?_
              exact ih_16 (t6 + 1) b5 (by omega) (by first | assumption | omega) (by first | assumption | omega) (by first | rfl | (rw [nlG, ← hb_16, e1, e2, if_neg (Int64.not_lt.mpr (by assumption))]; exact hb_16) | (rw [nlG, ← hb_16, e1, e2, if_neg (Int64.not_lt.mpr (by assumption))]) | (rw [nlG, ← hb_16, e1, e2, if_pos (Int64.not_le.mp (by assumption))])) _ _ _ hP hD hS (lv_sub hl [4, 5, 6, 1, 0] rfl)
            · skip
              refine lv_iload hx hb dX10_nearestLetter_79 (lv_at hl 6 rfl) ?_
              refine lv_goto (tgt := 86) hx hb dX10_nearestLetter_81 (by decide) ?_
              refine lv_istore (lv' := [(5, .int (nlL a t6)), (9, .long (up - (b5.toInt64 * low))), (7, .long (up - (((nlL a t6).toInt64) * low))), (0, .ref (h 0)), (1, .long up), (3, .long low), (6, .int (nlL a t6))]) hx hb dX10_nearestLetter_86 hl (by decide) rfl (fun ls hl => ?_)
              refine lv_iinc (v := nlL a (t6 + 1)) (lv' := [(6, .int (nlL a (t6 + 1))), (5, .int (nlL a t6)), (9, .long (up - (b5.toInt64 * low))), (7, .long (up - (((nlL a t6).toInt64) * low))), (0, .ref (h 0)), (1, .long up), (3, .long low)]) hx hb dX10_nearestLetter_88 hl (k := 6) rfl (nl_inc ha2 ht_16) (by decide) rfl (fun ls hl => ?_)
              refine lv_goto (tgt := 16) hx hb dX10_nearestLetter_91 (by decide) ?_
              exact ih_16 (t6 + 1) (nlL a t6) (by omega) (by first | assumption | omega) (by first | assumption | omega) (by first | rfl | (rw [nlG, ← hb_16, e1, e2, if_neg (Int64.not_lt.mpr (by assumption))]; exact hb_16) | (rw [nlG, ← hb_16, e1, e2, if_neg (Int64.not_lt.mpr (by assumption))]) | (rw [nlG, ← hb_16, e1, e2, if_pos (Int64.not_le.mp (by assumption))])) _ _ _ hP hD hS (lv_sub hl [4, 5, 6, 1, 0] rfl)
          · skip
            have e2 := absL_n (x := up - (b5.toInt64 * low)) c_62_2
            refine lv_lconst (v := 0) hx hb dX10_nearestLetter_66 rfl ?_
            refine lv_lload hx hb dX10_nearestLetter_67 (lv_at hl 0 rfl) ?_
            refine lv_lsub hx hb dX10_nearestLetter_69 ?_
            refine lv_goto (tgt := 75) hx hb dX10_nearestLetter_70 (by decide) ?_
            refine xl_ge (tgt := 84) hx hb dX10_nearestLetter_75 dX10_nearestLetter_76 (by decide) (fun c_75_4 => ?_) (fun c_75_4 => ?_)
            · skip
              refine lv_iload hx hb dX10_nearestLetter_84 (lv_at hl 5 rfl) ?_
              refine lv_istore (lv' := [(5, .int b5), (9, .long (up - (b5.toInt64 * low))), (7, .long (up - (((nlL a t6).toInt64) * low))), (0, .ref (h 0)), (1, .long up), (3, .long low), (6, .int (nlL a t6))]) hx hb dX10_nearestLetter_86 hl (by decide) rfl (fun ls hl => ?_)
              refine lv_iinc (v := nlL a (t6 + 1)) (lv' := [(6, .int (nlL a (t6 + 1))), (5, .int b5), (9, .long (up - (b5.toInt64 * low))), (7, .long (up - (((nlL a t6).toInt64) * low))), (0, .ref (h 0)), (1, .long up), (3, .long low)]) hx hb dX10_nearestLetter_88 hl (k := 6) rfl (nl_inc ha2 ht_16) (by decide) rfl (fun ls hl => ?_)
              refine lv_goto (tgt := 16) hx hb dX10_nearestLetter_91 (by decide) ?_
              exact ih_16 (t6 + 1) b5 (by omega) (by first | assumption | omega) (by first | assumption | omega) (by first | rfl | (rw [nlG, ← hb_16, e1, e2, if_neg (Int64.not_lt.mpr (by assumption))]; exact hb_16) | (rw [nlG, ← hb_16, e1, e2, if_neg (Int64.not_lt.mpr (by assumption))]) | (rw [nlG, ← hb_16, e1, e2, if_pos (Int64.not_le.mp (by assumption))])) _ _ _ hP hD hS (lv_sub hl [4, 5, 6, 1, 0] rfl)
            · skip
              refine lv_iload hx hb dX10_nearestLetter_79 (lv_at hl 6 rfl) ?_
              refine lv_goto (tgt := 86) hx hb dX10_nearestLetter_81 (by decide) ?_
              refine lv_istore (lv' := [(5, .int (nlL a t6)), (9, .long (up - (b5.toInt64 * low))), (7, .long (up - (((nlL a t6).toInt64) * low))), (0, .ref (h 0)), (1, .long up), (3, .long low), (6, .int (nlL a t6))]) hx hb dX10_nearestLetter_86 hl (by decide) rfl (fun ls hl => ?_)
              refine lv_iinc (v := nlL a (t6 + 1)) (lv' := [(6, .int (nlL a (t6 + 1))), (5, .int (nlL a t6)), (9, .long (up - (b5.toInt64 * low))), (7, .long (up - (((nlL a t6).toInt64) * low))), (0, .ref (h 0)), (1, .long up), (3, .long low)]) hx hb dX10_nearestLetter_88 hl (k := 6) rfl (nl_inc ha2 ht_16) (by decide) rfl (fun ls hl => ?_)
              refine lv_goto (tgt := 16) hx hb dX10_nearestLetter_91 (by decide) ?_
              exact ih_16 (t6 + 1) (nlL a t6) (by omega) (by first | assumption | omega) (by first | assumption | omega) (by first | rfl | (rw [nlG, ← hb_16, e1, e2, if_neg (Int64.not_lt.mpr (by assumption))]; exact hb_16) | (rw [nlG, ← hb_16, e1, e2, if_neg (Int64.not_lt.mpr (by assumption))]) | (rw [nlG, ← hb_16, e1, e2, if_pos (Int64.not_le.mp (by assumption))])) _ _ _ hP hD hS (lv_sub hl [4, 5, 6, 1, 0] rfl)
        · skip
          have e1 := absL_n (x := up - (((nlL a t6).toInt64) * low)) c_46_1
          refine lv_lconst (v := 0) hx hb dX10_nearestLetter_50 rfl ?_
          refine lv_lload hx hb dX10_nearestLetter_51 (lv_at hl 1 rfl) ?_
          refine lv_lsub hx hb dX10_nearestLetter_53 ?_
          refine lv_goto (tgt := 59) hx hb dX10_nearestLetter_54 (by decide) ?_
          refine lv_lload hx hb dX10_nearestLetter_59 (lv_at hl 0 rfl) ?_
          refine lv_lconst (v := 0) hx hb dX10_nearestLetter_61 rfl ?_
          refine xl_ge (tgt := 73) hx hb dX10_nearestLetter_62 dX10_nearestLetter_63 (by decide) (fun c_62_5 => ?_) (fun c_62_5 => ?_)
          · skip
            have e2 := absL_p (x := up - (b5.toInt64 * low)) c_62_5
            refine lv_lload hx hb dX10_nearestLetter_73 (lv_at hl 0 rfl) ?_
            refine xl_ge (tgt := 84) hx hb dX10_nearestLetter_75 dX10_nearestLetter_76 (by decide) (fun c_75_6 => ?_) (fun c_75_6 => ?_)
            · skip
              refine lv_iload hx hb dX10_nearestLetter_84 (lv_at hl 5 rfl) ?_
              refine lv_istore (lv' := [(5, .int b5), (9, .long (up - (b5.toInt64 * low))), (7, .long (up - (((nlL a t6).toInt64) * low))), (0, .ref (h 0)), (1, .long up), (3, .long low), (6, .int (nlL a t6))]) hx hb dX10_nearestLetter_86 hl (by decide) rfl (fun ls hl => ?_)
              refine lv_iinc (v := nlL a (t6 + 1)) (lv' := [(6, .int (nlL a (t6 + 1))), (5, .int b5), (9, .long (up - (b5.toInt64 * low))), (7, .long (up - (((nlL a t6).toInt64) * low))), (0, .ref (h 0)), (1, .long up), (3, .long low)]) hx hb dX10_nearestLetter_88 hl (k := 6) rfl (nl_inc ha2 ht_16) (by decide) rfl (fun ls hl => ?_)
              refine lv_goto (tgt := 16) hx hb dX10_nearestLetter_91 (by decide) ?_
              exact ih_16 (t6 + 1) b5 (by omega) (by first | assumption | omega) (by first | assumption | omega) (by first | rfl | (rw [nlG, ← hb_16, e1, e2, if_neg (Int64.not_lt.mpr (by assumption))]; exact hb_16) | (rw [nlG, ← hb_16, e1, e2, if_neg (Int64.not_lt.mpr (by assumption))]) | (rw [nlG, ← hb_16, e1, e2, if_pos (Int64.not_le.mp (by assumption))])) _ _ _ hP hD hS (lv_sub hl [4, 5, 6, 1, 0] rfl)
            · skip
              refine lv_iload hx hb dX10_nearestLetter_79 (lv_at hl 6 rfl) ?_
              refine lv_goto (tgt := 86) hx hb dX10_nearestLetter_81 (by decide) ?_
              refine lv_istore (lv' := [(5, .int (nlL a t6)), (9, .long (up - (b5.toInt64 * low))), (7, .long (up - (((nlL a t6).toInt64) * low))), (0, .ref (h 0)), (1, .long up), (3, .long low), (6, .int (nlL a t6))]) hx hb dX10_nearestLetter_86 hl (by decide) rfl (fun ls hl => ?_)
              refine lv_iinc (v := nlL a (t6 + 1)) (lv' := [(6, .int (nlL a (t6 + 1))), (5, .int (nlL a t6)), (9, .long (up - (b5.toInt64 * low))), (7, .long (up - (((nlL a t6).toInt64) * low))), (0, .ref (h 0)), (1, .long up), (3, .long low)]) hx hb dX10_nearestLetter_88 hl (k := 6) rfl (nl_inc ha2 ht_16) (by decide) rfl (fun ls hl => ?_)
              refine lv_goto (tgt := 16) hx hb dX10_nearestLetter_91 (by decide) ?_
              exact ih_16 (t6 + 1) (nlL a t6) (by omega) (by first | assumption | omega) (by first | assumption | omega) (by first | rfl | (rw [nlG, ← hb_16, e1, e2, if_neg (Int64.not_lt.mpr (by assumption))]; exact hb_16) | (rw [nlG, ← hb_16, e1, e2, if_neg (Int64.not_lt.mpr (by assumption))]) | (rw [nlG, ← hb_16, e1, e2, if_pos (Int64.not_le.mp (by assumption))])) _ _ _ hP hD hS (lv_sub hl [4, 5, 6, 1, 0] rfl)
          · skip
            have e2 := absL_n (x := up - (b5.toInt64 * low)) c_62_5
            refine lv_lconst (v := 0) hx hb dX10_nearestLetter_66 rfl ?_
            refine lv_lload hx hb dX10_nearestLetter_67 (lv_at hl 0 rfl) ?_
            refine lv_lsub hx hb dX10_nearestLetter_69 ?_
            refine lv_goto (tgt := 75) hx hb dX10_nearestLetter_70 (by decide) ?_
            refine xl_ge (tgt := 84) hx hb dX10_nearestLetter_75 dX10_nearestLetter_76 (by decide) (fun c_75_7 => ?_) (fun c_75_7 => ?_)
            · skip
              refine lv_iload hx hb dX10_nearestLetter_84 (lv_at hl 5 rfl) ?_
              refine lv_istore (lv' := [(5, .int b5), (9, .long (up - (b5.toInt64 * low))), (7, .long (up - (((nlL a t6).toInt64) * low))), (0, .ref (h 0)), (1, .long up), (3, .long low), (6, .int (nlL a t6))]) hx hb dX10_nearestLetter_86 hl (by decide) rfl (fun ls hl => ?_)
              refine lv_iinc (v := nlL a (t6 + 1)) (lv' := [(6, .int (nlL a (t6 + 1))), (5, .int b5), (9, .long (up - (b5.toInt64 * low))), (7, .long (up - (((nlL a t6).toInt64) * low))), (0, .ref (h 0)), (1, .long up), (3, .long low)]) hx hb dX10_nearestLetter_88 hl (k := 6) rfl (nl_inc ha2 ht_16) (by decide) rfl (fun ls hl => ?_)
              refine lv_goto (tgt := 16) hx hb dX10_nearestLetter_91 (by decide) ?_
              exact ih_16 (t6 + 1) b5 (by omega) (by first | assumption | omega) (by first | assumption | omega) (by first | rfl | (rw [nlG, ← hb_16, e1, e2, if_neg (Int64.not_lt.mpr (by assumption))]; exact hb_16) | (rw [nlG, ← hb_16, e1, e2, if_neg (Int64.not_lt.mpr (by assumption))]) | (rw [nlG, ← hb_16, e1, e2, if_pos (Int64.not_le.mp (by assumption))])) _ _ _ hP hD hS (lv_sub hl [4, 5, 6, 1, 0] rfl)
            · skip
              refine lv_iload hx hb dX10_nearestLetter_79 (lv_at hl 6 rfl) ?_
              refine lv_goto (tgt := 86) hx hb dX10_nearestLetter_81 (by decide) ?_
              refine lv_istore (lv' := [(5, .int (nlL a t6)), (9, .long (up - (b5.toInt64 * low))), (7, .long (up - (((nlL a t6).toInt64) * low))), (0, .ref (h 0)), (1, .long up), (3, .long low), (6, .int (nlL a t6))]) hx hb dX10_nearestLetter_86 hl (by decide) rfl (fun ls hl => ?_)
              refine lv_iinc (v := nlL a (t6 + 1)) (lv' := [(6, .int (nlL a (t6 + 1))), (5, .int (nlL a t6)), (9, .long (up - (b5.toInt64 * low))), (7, .long (up - (((nlL a t6).toInt64) * low))), (0, .ref (h 0)), (1, .long up), (3, .long low)]) hx hb dX10_nearestLetter_88 hl (k := 6) rfl (nl_inc ha2 ht_16) (by decide) rfl (fun ls hl => ?_)
              refine lv_goto (tgt := 16) hx hb dX10_nearestLetter_91 (by decide) ?_
              exact ih_16 (t6 + 1) (nlL a t6) (by omega) (by first | assumption | omega) (by first | assumption | omega) (by first | rfl | (rw [nlG, ← hb_16, e1, e2, if_neg (Int64.not_lt.mpr (by assumption))]; exact hb_16) | (rw [nlG, ← hb_16, e1, e2, if_neg (Int64.not_lt.mpr (by assumption))]) | (rw [nlG, ← hb_16, e1, e2, if_pos (Int64.not_le.mp (by assumption))])) _ _ _ hP hD hS (lv_sub hl [4, 5, 6, 1, 0] rfl)
  exact cut_16 _ 0 ((nI 1) - (nI a)) (Nat.lt_succ_self _) (by first | assumption | omega) (by first | assumption | omega) (by first | rfl | (rw [nlG, ← hb_16, e1, e2, if_neg (Int64.not_lt.mpr (by assumption))]; exact hb_16) | (rw [nlG, ← hb_16, e1, e2, if_neg (Int64.not_lt.mpr (by assumption))]) | (rw [nlG, ← hb_16, e1, e2, if_pos (Int64.not_le.mp (by assumption))])) _ _ _ hP hD hS (lv_sub hl [2, 3, 4, 1, 0] rfl)

