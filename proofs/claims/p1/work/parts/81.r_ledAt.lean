set_option maxHeartbeats 4000000 in
set_option maxRecDepth 100000 in
theorem a_X10_isRow_228 (l : Launch) (dC : Nat → ClassId) (dI : Nat → Nat → Nat) (h : Nat → Nat) (cs : Nat → ClassId) (sz : Nat) (I : Nat → Int32) (L : Nat → Int64) (A : Nat → Nat → Int32) (Q : Nat → Nat → Int64) : Met l yX10_isRow wsX10_isRow ({ frames := 1, cells := 0, slots := 0, locals := 25 }) (va_Pc [.ref (h 0), .int (nI 0)] (xPre (dC, dI) (wD_177 h cs gI gL gA gQ) (tysA cs) sz)) (va_Qi (fun (r : Int32) (u : RS) => (r = nI 1) ∧ u = (gI, gL, gA, gQ)) (xB (dC, dI) (tysA cs) (va_A (wD_177 h cs gI gL gA gQ) sz) (fun u : RS => wD_177 h cs u.1 u.2.1 u.2.2.1 u.2.2.2)) (va_A (wD_177 h cs gI gL gA gQ) sz)) 0 0 (va_A (wD_177 h cs gI gL gA gQ) sz) := by
  refine Met.ofW (cc := cX10_isRow) (maxL := 2) (ret := (some .boolean)) (by decide) rfl ?_
  intro p e s m args below meth c s₁ B hml hv
  obtain ⟨rfl, hsz, hP, hK, hD0, hN⟩ := hv
  have hx := B.exec
  have hb := B.bytes
  have hr := B.returns
  have hts := atoms_spec (ws := wsX10_isRow) B.pre
  have hown : s.vm.findClass RX10 = some m.cls := findClass_of_methodNamed B.named
  have hlocks := B.notSynchronized
  subst hsz
  have hD := hD0.self (sz := s.heap.size)
  generalize hAe : va_A (wD_177 h cs gI gL gA gQ) s.heap.size = A0 at hD ⊢
  have hA : ∀ q : Nat, s.heap.size ≤ q → A0 q := fun q h => by rw [← hAe]; exact Or.inr h
  have hl := lv_entry ([.ref (h 0), .int (nI 0)]) (n := 2) (Nat.le_of_ble_eq_true rfl)
  rw [lg_entry_eq]
  generalize (lg_sl ([.ref (h 0), .int (nI 0)]) ++ List.replicate (2 - (lg_sl ([.ref (h 0), .int (nI 0)])).length) Slot.unset).toArray = ls at hl ⊢
  have hl : lv_has ls 2 [(0, .ref (h 0)), (1, .int (nI 0))] := hl
  generalize hH : s.heap = H at hP ⊢
  have hS : va_S A0 s.heap H [] := by rw [← hH]; exact va_S.rf
  have hinX10 : ∀ w ∈ wsX100, w ∈ wsX10_isRow := by decide +kernel
  refine lv_iload_n hx hb dX10_isRow_0 rfl (lv_at hl 1 rfl) ?_
  refine lv_i2l (v := (0 : Int64)) hx hb dX10_isRow_1 (by decide +kernel) ?_
  refine lv_lconst (v := 0) hx hb dX10_isRow_2 rfl ?_
  refine lv_aload_n hx hb dX10_isRow_3 rfl (lv_at hl 0 rfl) ?_
  refine va_get (D := (dC, dI)) (ci := 10) (v := .int (gI 0)) (C := RX10) (T := TX10) (N := 28) hx hb hts hinX10 hown hK hP 0 rfl rfl 0 (by decide) (hts (.fieldLink RX10 7 "MixedWordsModel" "rows" "I") (by decide +kernel)) (fun _ h9 => h9) rfl dX10_isRow_4 ?_
  refine xt_i (y := nI 2) (by decide +kernel) ?_
  refine lv_iconst (v := nI 1) hx hb dX10_isRow_7 (by decide) ?_
  refine lv_isub hx hb dX10_isRow_8 ?_
  refine xt_i (y := nI 1) (by decide +kernel) ?_
  refine lv_i2l (v := (1 : Int64)) hx hb dX10_isRow_9 (by decide +kernel) ?_
  refine xj_i (wc := ([] : va_W)) (wr := (wD_177 h cs gI gL gA gQ)) hP hD hS hA [] [0, 1, 2, 3, 4, 5, 6, 7, 8, 9, 10, 11, 12, 13, 14, 15, 16] rfl rfl (by decide) (by decide) (va_runS (As := [.long (0 : Int64), .long (0 : Int64), .long (1 : Int64)]) (rest := []) ⟨hx, hb, hml, hown, hts⟩ (a_X10_in_201 l dC dI h cs H.size I L A Q ) (va_cwS 3 hts gX10_isRow_X10_in rfl rfl rfl (by decide +kernel) ⟨Nat.le_of_ble_eq_true rfl, Nat.le_of_ble_eq_true rfl⟩) (xpS (wc := ([] : va_W)) hP hD hK hN [] rfl (by decide) _) rfl rfl hl.1 rfl (lv_room (Nat.le_of_ble_eq_true rfl)) dX10_isRow_10 ⟨Nat.zero_le _, Nat.zero_le _⟩) (fun r_2 u_1 H locs hw hP hD hS => ?_)
  obtain ⟨hf_3, rfl⟩ := hw
  have hP : va_P (dC, dI) vwCl (wD_177 h cs gI gL gA gQ) H := hP
  have hD : va_D A0 (wD_177 h cs gI gL gA gQ) := hD
  obtain rfl := hf_3
  exact xr_z (v := (nI 1)) hx hb hr hlocks hK hS dX10_isRow_13 (rfl) (gI, gL, gA, gQ) ⟨rfl, rfl⟩ hP hD
set_option maxRecDepth 20000 in
theorem ggX10_steps_X10_dot : GoodIn wsX10_steps wsX10_dot := goodIn_r _ [8, 2, 12, 13, 14, 15, 16, 17, 18, 19, 20, 21, 22, 23, 24, 25, 26, 27, 28, 29, 30, 31, 32, 33, 34, 35, 36, 37, 38, 39] (by decide +kernel) (by decide +kernel)
set_option maxRecDepth 20000 in
theorem gX10_steps_X10_dot : GoodIn wsX10_steps (wsV RX10 175 RX10 yX10_dot wsX10_dot) := goodIn_app (goodIn_of _ (by decide +kernel)) ggX10_steps_X10_dot
set_option maxRecDepth 20000 in
theorem ggX10_steps_X10_nearestWhole : GoodIn wsX10_steps wsX10_nearestWhole := goodIn_r _ [11] (by decide +kernel) (by decide +kernel)
set_option maxRecDepth 20000 in
theorem gX10_steps_X10_nearestWhole : GoodIn wsX10_steps (va_wsS RX10 222 yX10_nearestWhole wsX10_nearestWhole) := goodIn_app (goodIn_of _ (by decide +kernel)) ggX10_steps_X10_nearestWhole
theorem dX10_steps_0 : decode cX10_steps 0 = .ok (.iconst 0, 1) := by decide +kernel
theorem dX10_steps_1 : decode cX10_steps 1 = .ok (.istore_n 1, 1) := by decide +kernel
theorem dX10_steps_2 : decode cX10_steps 2 = .ok (.iload_n 1, 1) := by decide +kernel
theorem dX10_steps_3 : decode cX10_steps 3 = .ok (.aload_n 0, 1) := by decide +kernel
theorem dX10_steps_4 : decode cX10_steps 4 = .ok (.getfield 13, 3) := by decide +kernel
theorem dX10_steps_7 : decode cX10_steps 7 = .ok (.if_icmp .ge 164, 3) := by decide +kernel
theorem dX10_steps_10 : decode cX10_steps 10 = .ok (.iconst 0, 1) := by decide +kernel
theorem dX10_steps_11 : decode cX10_steps 11 = .ok (.istore_n 2, 1) := by decide +kernel
theorem dX10_steps_12 : decode cX10_steps 12 = .ok (.iload_n 2, 1) := by decide +kernel
theorem dX10_steps_13 : decode cX10_steps 13 = .ok (.aload_n 0, 1) := by decide +kernel
theorem dX10_steps_14 : decode cX10_steps 14 = .ok (.getfield 13, 3) := by decide +kernel
theorem dX10_steps_17 : decode cX10_steps 17 = .ok (.if_icmp .ge 148, 3) := by decide +kernel
theorem dX10_steps_20 : decode cX10_steps 20 = .ok (.aload_n 0, 1) := by decide +kernel
theorem dX10_steps_21 : decode cX10_steps 21 = .ok (.iload_n 2, 1) := by decide +kernel
theorem dX10_steps_22 : decode cX10_steps 22 = .ok (.iload_n 2, 1) := by decide +kernel
theorem dX10_steps_23 : decode cX10_steps 23 = .ok (.invokevirtual 175, 3) := by decide +kernel
theorem dX10_steps_26 : decode cX10_steps 26 = .ok (.istore_n 3, 1) := by decide +kernel
theorem dX10_steps_27 : decode cX10_steps 27 = .ok (.iload_n 1, 1) := by decide +kernel
theorem dX10_steps_28 : decode cX10_steps 28 = .ok (.iload_n 2, 1) := by decide +kernel
theorem dX10_steps_29 : decode cX10_steps 29 = .ok (.if_icmp .eq 7, 3) := by decide +kernel
theorem dX10_steps_32 : decode cX10_steps 32 = .ok (.iload_n 3, 1) := by decide +kernel
theorem dX10_steps_33 : decode cX10_steps 33 = .ok (.ifCond .ne 7, 3) := by decide +kernel
theorem dX10_steps_36 : decode cX10_steps 36 = .ok (.iconst 0, 1) := by decide +kernel
theorem dX10_steps_37 : decode cX10_steps 37 = .ok (.goto 13, 3) := by decide +kernel
theorem dX10_steps_40 : decode cX10_steps 40 = .ok (.aload_n 0, 1) := by decide +kernel
theorem dX10_steps_41 : decode cX10_steps 41 = .ok (.iload_n 1, 1) := by decide +kernel
theorem dX10_steps_42 : decode cX10_steps 42 = .ok (.iload_n 2, 1) := by decide +kernel
theorem dX10_steps_43 : decode cX10_steps 43 = .ok (.invokevirtual 175, 3) := by decide +kernel
theorem dX10_steps_46 : decode cX10_steps 46 = .ok (.iload_n 3, 1) := by decide +kernel
theorem dX10_steps_47 : decode cX10_steps 47 = .ok (.invokestatic 222, 3) := by decide +kernel
theorem dX10_steps_50 : decode cX10_steps 50 = .ok (.istore 4, 2) := by decide +kernel
theorem dX10_steps_52 : decode cX10_steps 52 = .ok (.iload 4, 2) := by decide +kernel
theorem dX10_steps_54 : decode cX10_steps 54 = .ok (.iload 4, 2) := by decide +kernel
theorem dX10_steps_56 : decode cX10_steps 56 = .ok (.iload_n 3, 1) := by decide +kernel
theorem dX10_steps_57 : decode cX10_steps 57 = .ok (.imul, 1) := by decide +kernel
theorem dX10_steps_58 : decode cX10_steps 58 = .ok (.iconst 2, 1) := by decide +kernel
theorem dX10_steps_59 : decode cX10_steps 59 = .ok (.aload_n 0, 1) := by decide +kernel
theorem dX10_steps_60 : decode cX10_steps 60 = .ok (.iload_n 1, 1) := by decide +kernel
theorem dX10_steps_61 : decode cX10_steps 61 = .ok (.iload_n 2, 1) := by decide +kernel
theorem dX10_steps_62 : decode cX10_steps 62 = .ok (.invokevirtual 175, 3) := by decide +kernel
theorem dX10_steps_65 : decode cX10_steps 65 = .ok (.imul, 1) := by decide +kernel
theorem dX10_steps_66 : decode cX10_steps 66 = .ok (.isub, 1) := by decide +kernel
theorem dX10_steps_67 : decode cX10_steps 67 = .ok (.imul, 1) := by decide +kernel
theorem dX10_steps_68 : decode cX10_steps 68 = .ok (.ifCond .ge 91, 3) := by decide +kernel
theorem dX10_steps_71 : decode cX10_steps 71 = .ok (.iconst 0, 1) := by decide +kernel
theorem dX10_steps_72 : decode cX10_steps 72 = .ok (.istore 5, 2) := by decide +kernel
theorem dX10_steps_74 : decode cX10_steps 74 = .ok (.iload 5, 2) := by decide +kernel
theorem dX10_steps_76 : decode cX10_steps 76 = .ok (.iconst 5, 1) := by decide +kernel
theorem dX10_steps_77 : decode cX10_steps 77 = .ok (.if_icmp .ge 37, 3) := by decide +kernel
theorem dX10_steps_80 : decode cX10_steps 80 = .ok (.aload_n 0, 1) := by decide +kernel
theorem dX10_steps_81 : decode cX10_steps 81 = .ok (.getfield 41, 3) := by decide +kernel
theorem dX10_steps_84 : decode cX10_steps 84 = .ok (.iconst 5, 1) := by decide +kernel
theorem dX10_steps_85 : decode cX10_steps 85 = .ok (.iload_n 1, 1) := by decide +kernel
theorem dX10_steps_86 : decode cX10_steps 86 = .ok (.imul, 1) := by decide +kernel
theorem dX10_steps_87 : decode cX10_steps 87 = .ok (.iload 5, 2) := by decide +kernel
theorem dX10_steps_89 : decode cX10_steps 89 = .ok (.iadd, 1) := by decide +kernel
theorem dX10_steps_90 : decode cX10_steps 90 = .ok (.dup2, 1) := by decide +kernel
theorem dX10_steps_91 : decode cX10_steps 91 = .ok (.iaload, 1) := by decide +kernel
theorem dX10_steps_92 : decode cX10_steps 92 = .ok (.iload 4, 2) := by decide +kernel
theorem dX10_steps_94 : decode cX10_steps 94 = .ok (.aload_n 0, 1) := by decide +kernel
theorem dX10_steps_95 : decode cX10_steps 95 = .ok (.getfield 41, 3) := by decide +kernel
theorem dX10_steps_98 : decode cX10_steps 98 = .ok (.iconst 5, 1) := by decide +kernel
theorem dX10_steps_99 : decode cX10_steps 99 = .ok (.iload_n 2, 1) := by decide +kernel
theorem dX10_steps_100 : decode cX10_steps 100 = .ok (.imul, 1) := by decide +kernel
theorem dX10_steps_101 : decode cX10_steps 101 = .ok (.iload 5, 2) := by decide +kernel
theorem dX10_steps_103 : decode cX10_steps 103 = .ok (.iadd, 1) := by decide +kernel
theorem dX10_steps_104 : decode cX10_steps 104 = .ok (.iaload, 1) := by decide +kernel
theorem dX10_steps_105 : decode cX10_steps 105 = .ok (.imul, 1) := by decide +kernel
theorem dX10_steps_106 : decode cX10_steps 106 = .ok (.isub, 1) := by decide +kernel
theorem dX10_steps_107 : decode cX10_steps 107 = .ok (.iastore, 1) := by decide +kernel
theorem dX10_steps_108 : decode cX10_steps 108 = .ok (.iinc 5 1, 3) := by decide +kernel
theorem dX10_steps_111 : decode cX10_steps 111 = .ok (.goto (-37), 3) := by decide +kernel
theorem dX10_steps_114 : decode cX10_steps 114 = .ok (.iconst 0, 1) := by decide +kernel
theorem dX10_steps_115 : decode cX10_steps 115 = .ok (.istore 5, 2) := by decide +kernel
theorem dX10_steps_117 : decode cX10_steps 117 = .ok (.iload 5, 2) := by decide +kernel
theorem dX10_steps_119 : decode cX10_steps 119 = .ok (.iconst 4, 1) := by decide +kernel
theorem dX10_steps_120 : decode cX10_steps 120 = .ok (.if_icmp .ge 37, 3) := by decide +kernel
theorem dX10_steps_123 : decode cX10_steps 123 = .ok (.aload_n 0, 1) := by decide +kernel
theorem dX10_steps_124 : decode cX10_steps 124 = .ok (.getfield 44, 3) := by decide +kernel
theorem dX10_steps_127 : decode cX10_steps 127 = .ok (.iconst 4, 1) := by decide +kernel
theorem dX10_steps_128 : decode cX10_steps 128 = .ok (.iload 5, 2) := by decide +kernel
theorem dX10_steps_130 : decode cX10_steps 130 = .ok (.imul, 1) := by decide +kernel
theorem dX10_steps_131 : decode cX10_steps 131 = .ok (.iload_n 1, 1) := by decide +kernel
theorem dX10_steps_132 : decode cX10_steps 132 = .ok (.iadd, 1) := by decide +kernel
theorem dX10_steps_133 : decode cX10_steps 133 = .ok (.dup2, 1) := by decide +kernel
theorem dX10_steps_134 : decode cX10_steps 134 = .ok (.iaload, 1) := by decide +kernel
theorem dX10_steps_135 : decode cX10_steps 135 = .ok (.iload 4, 2) := by decide +kernel
theorem dX10_steps_137 : decode cX10_steps 137 = .ok (.aload_n 0, 1) := by decide +kernel
theorem dX10_steps_138 : decode cX10_steps 138 = .ok (.getfield 44, 3) := by decide +kernel
theorem dX10_steps_141 : decode cX10_steps 141 = .ok (.iconst 4, 1) := by decide +kernel
theorem dX10_steps_142 : decode cX10_steps 142 = .ok (.iload 5, 2) := by decide +kernel
theorem dX10_steps_144 : decode cX10_steps 144 = .ok (.imul, 1) := by decide +kernel
theorem dX10_steps_145 : decode cX10_steps 145 = .ok (.iload_n 2, 1) := by decide +kernel
theorem dX10_steps_146 : decode cX10_steps 146 = .ok (.iadd, 1) := by decide +kernel
theorem dX10_steps_147 : decode cX10_steps 147 = .ok (.iaload, 1) := by decide +kernel
theorem dX10_steps_148 : decode cX10_steps 148 = .ok (.imul, 1) := by decide +kernel
theorem dX10_steps_149 : decode cX10_steps 149 = .ok (.isub, 1) := by decide +kernel
theorem dX10_steps_150 : decode cX10_steps 150 = .ok (.iastore, 1) := by decide +kernel
theorem dX10_steps_151 : decode cX10_steps 151 = .ok (.iinc 5 1, 3) := by decide +kernel
theorem dX10_steps_154 : decode cX10_steps 154 = .ok (.goto (-37), 3) := by decide +kernel
theorem dX10_steps_157 : decode cX10_steps 157 = .ok (.iconst 1, 1) := by decide +kernel
theorem dX10_steps_158 : decode cX10_steps 158 = .ok (.ireturn, 1) := by decide +kernel
theorem dX10_steps_159 : decode cX10_steps 159 = .ok (.iinc 2 1, 3) := by decide +kernel
theorem dX10_steps_162 : decode cX10_steps 162 = .ok (.goto (-150), 3) := by decide +kernel
theorem dX10_steps_165 : decode cX10_steps 165 = .ok (.iinc 1 1, 3) := by decide +kernel
theorem dX10_steps_168 : decode cX10_steps 168 = .ok (.goto (-166), 3) := by decide +kernel
theorem dX10_steps_171 : decode cX10_steps 171 = .ok (.iconst 0, 1) := by decide +kernel
theorem dX10_steps_172 : decode cX10_steps 172 = .ok (.ireturn, 1) := by decide +kernel
set_option maxHeartbeats 4000000 in
set_option maxRecDepth 100000 in
theorem a_X10_steps_230 (l : Launch) (dC : Nat → ClassId) (dI : Nat → Nat → Nat) (h : Nat → Nat) (cs : Nat → ClassId) (sz : Nat) (I : Nat → Int32) (L : Nat → Int64) (A : Nat → Nat → Int32) (Q : Nat → Nat → Int64) : Met l yX10_steps wsX10_steps ({ frames := 1, cells := 0, slots := 0, locals := 24 }) (va_Pc [.ref (h 0)] (xPre (dC, dI) (wD_177 h cs gI gL qA_210 gQ) (tysA cs) sz)) (va_Qi (fun (r : Int32) (u : RS) => (r = nI 0) ∧ u = (gI, gL, qA_210, gQ)) (xB (dC, dI) (tysA cs) (va_A (wD_177 h cs gI gL qA_210 gQ) sz) (fun u : RS => wD_177 h cs u.1 u.2.1 u.2.2.1 u.2.2.2)) (va_A (wD_177 h cs gI gL qA_210 gQ) sz)) 0 0 (va_A (wD_177 h cs gI gL qA_210 gQ) sz) := by
  refine Met.ofW (cc := cX10_steps) (maxL := 6) (ret := (some .boolean)) (by decide) rfl ?_
  intro p e s m args below meth c s₁ B hml hv
  obtain ⟨rfl, hsz, hP, hK, hD0, hN⟩ := hv
  have hx := B.exec
  have hb := B.bytes
  have hr := B.returns
  have hts := atoms_spec (ws := wsX10_steps) B.pre
  have hown : s.vm.findClass RX10 = some m.cls := findClass_of_methodNamed B.named
  have hlocks := B.notSynchronized
  subst hsz
  have hD := hD0.self (sz := s.heap.size)
  generalize hAe : va_A (wD_177 h cs gI gL qA_210 gQ) s.heap.size = A0 at hD ⊢
  have hA : ∀ q : Nat, s.heap.size ≤ q → A0 q := fun q h => by rw [← hAe]; exact Or.inr h
  have hl := lv_entry ([.ref (h 0)]) (n := 6) (Nat.le_of_ble_eq_true rfl)
  rw [lg_entry_eq]
  generalize (lg_sl ([.ref (h 0)]) ++ List.replicate (6 - (lg_sl ([.ref (h 0)])).length) Slot.unset).toArray = ls at hl ⊢
  have hl : lv_has ls 6 [(0, .ref (h 0))] := hl
  generalize hH : s.heap = H at hP ⊢
  have hS : va_S A0 s.heap H [] := by rw [← hH]; exact va_S.rf
  have hinX10 : ∀ w ∈ wsX100, w ∈ wsX10_steps := by decide +kernel
  refine lv_iconst (v := nI 0) hx hb dX10_steps_0 (by decide) ?_
  refine lv_istore_n (lv' := [(1, .int (nI 0)), (0, .ref (h 0))]) hx hb dX10_steps_1 rfl hl (by decide) rfl (fun ls hl => ?_)
  refine lv_iload_n hx hb dX10_steps_2 rfl (lv_at hl 0 rfl) ?_
  refine lv_aload_n hx hb dX10_steps_3 rfl (lv_at hl 1 rfl) ?_
  refine va_get (D := (dC, dI)) (ci := 10) (v := .int (gI 1)) (C := RX10) (T := TX10) (N := 28) hx hb hts hinX10 hown hK hP 0 rfl rfl 1 (by decide) (hts (.fieldLink RX10 13 "MixedWordsModel" "columns" "I") (by decide +kernel)) (fun _ h9 => h9) rfl dX10_steps_4 ?_
  refine xt_i (y := nI 2) (by decide +kernel) ?_
  refine lv_icmp_ge (tgt := 171) hx hb dX10_steps_7 (by decide) (fun c9 => False.elim (by revert c9; decide +kernel)) (fun _ => ?_)
  refine lv_iconst (v := nI 0) hx hb dX10_steps_10 (by decide) ?_
  refine lv_istore_n (lv' := [(2, .int (nI 0)), (1, .int (nI 0)), (0, .ref (h 0))]) hx hb dX10_steps_11 rfl hl (by decide) rfl (fun ls hl => ?_)
  refine lv_iload_n hx hb dX10_steps_12 rfl (lv_at hl 0 rfl) ?_
  refine lv_aload_n hx hb dX10_steps_13 rfl (lv_at hl 2 rfl) ?_
  refine va_get (D := (dC, dI)) (ci := 10) (v := .int (gI 1)) (C := RX10) (T := TX10) (N := 28) hx hb hts hinX10 hown hK hP 0 rfl rfl 1 (by decide) (hts (.fieldLink RX10 13 "MixedWordsModel" "columns" "I") (by decide +kernel)) (fun _ h9 => h9) rfl dX10_steps_14 ?_
  refine xt_i (y := nI 2) (by decide +kernel) ?_
  refine lv_icmp_ge (tgt := 165) hx hb dX10_steps_17 (by decide) (fun c9 => False.elim (by revert c9; decide +kernel)) (fun _ => ?_)
  refine lv_aload_n hx hb dX10_steps_20 rfl (lv_at hl 2 rfl) ?_
  refine lv_iload_n hx hb dX10_steps_21 rfl (lv_at hl 0 rfl) ?_
  refine lv_iload_n hx hb dX10_steps_22 rfl (lv_at hl 0 rfl) ?_
  refine xj_i (wc := (wD_177 h cs gI gL qA_210 gQ)) (wr := ([] : va_W)) hP hD hS hA [0, 1, 2, 3, 4, 5, 6, 7, 8, 9, 10, 11, 12, 13, 14, 15, 16] [] rfl rfl (by decide) (by decide) (va_runV (As := [.int (nI 0), .int (nI 0)]) (rest := []) ⟨hx, hb, hml, hown, hts⟩ (a_X10_dot_212 l dC dI h cs H.size gI gL qA_210 gQ ) (cwV 2 hts gX10_steps_X10_dot rfl rfl rfl (by decide +kernel) ⟨Nat.le_of_ble_eq_true rfl, Nat.le_of_ble_eq_true rfl⟩) (xpV (wc := (wD_177 h cs gI gL qA_210 gQ)) hP hD hK hN [0, 1, 2, 3, 4, 5, 6, 7, 8, 9, 10, 11, 12, 13, 14, 15, 16] rfl (by decide) 0 (ci := 10) rfl rfl _) rfl rfl hl.1 rfl (lv_room (Nat.le_of_ble_eq_true rfl)) dX10_steps_23 ⟨Nat.zero_le _, Nat.zero_le _⟩) (fun r_2 u_1 H locs hw hP hD hS => ?_)
  obtain ⟨hf_3, rfl⟩ := hw
  have hP : va_P (dC, dI) vwCl (wD_177 h cs gI gL qA_210 gQ) H := hP
  have hD : va_D A0 (wD_177 h cs gI gL qA_210 gQ) := hD
  obtain rfl := hf_3
  refine lv_istore_n (lv' := [(3, .int (nI 0)), (2, .int (nI 0)), (1, .int (nI 0)), (0, .ref (h 0))]) hx hb dX10_steps_26 rfl hl (by decide) rfl (fun ls hl => ?_)
  refine lv_iload_n hx hb dX10_steps_27 rfl (lv_at hl 2 rfl) ?_
  refine lv_iload_n hx hb dX10_steps_28 rfl (lv_at hl 1 rfl) ?_
  refine lv_icmp_eq (tgt := 36) hx hb dX10_steps_29 (by decide) (fun _ => ?_) (fun c9 => False.elim (by revert c9; decide +kernel))
  refine lv_iconst (v := nI 0) hx hb dX10_steps_36 (by decide) ?_
  refine lv_goto (tgt := 50) hx hb dX10_steps_37 (by decide) ?_
  refine lv_istore (lv' := [(4, .int (nI 0)), (3, .int (nI 0)), (2, .int (nI 0)), (1, .int (nI 0)), (0, .ref (h 0))]) hx hb dX10_steps_50 hl (by decide) rfl (fun ls hl => ?_)
  refine lv_iload hx hb dX10_steps_52 (lv_at hl 0 rfl) ?_
  refine lv_iload hx hb dX10_steps_54 (lv_at hl 0 rfl) ?_
  refine lv_iload_n hx hb dX10_steps_56 rfl (lv_at hl 1 rfl) ?_
  refine lv_imul hx hb dX10_steps_57 ?_
  refine xt_i (y := nI 0) (by decide +kernel) ?_
  refine lv_iconst (v := nI 2) hx hb dX10_steps_58 (by decide) ?_
  refine lv_aload_n hx hb dX10_steps_59 rfl (lv_at hl 4 rfl) ?_
  refine lv_iload_n hx hb dX10_steps_60 rfl (lv_at hl 3 rfl) ?_
  refine lv_iload_n hx hb dX10_steps_61 rfl (lv_at hl 2 rfl) ?_
  refine xj_i (wc := (wD_177 h cs gI gL qA_210 gQ)) (wr := ([] : va_W)) hP hD hS hA [0, 1, 2, 3, 4, 5, 6, 7, 8, 9, 10, 11, 12, 13, 14, 15, 16] [] rfl rfl (by decide) (by decide) (va_runV (As := [.int (nI 0), .int (nI 0)]) (rest := [.int (nI 2), .int (nI 0), .int (nI 0)]) ⟨hx, hb, hml, hown, hts⟩ (a_X10_dot_212 l dC dI h cs H.size gI gL qA_210 gQ ) (cwV 2 hts gX10_steps_X10_dot rfl rfl rfl (by decide +kernel) ⟨Nat.le_of_ble_eq_true rfl, Nat.le_of_ble_eq_true rfl⟩) (xpV (wc := (wD_177 h cs gI gL qA_210 gQ)) hP hD hK hN [0, 1, 2, 3, 4, 5, 6, 7, 8, 9, 10, 11, 12, 13, 14, 15, 16] rfl (by decide) 0 (ci := 10) rfl rfl _) rfl rfl hl.1 rfl (lv_room (Nat.le_of_ble_eq_true rfl)) dX10_steps_62 ⟨Nat.zero_le _, Nat.zero_le _⟩) (fun r_5 u_4 H locs hw hP hD hS => ?_)
  obtain ⟨hf_6, rfl⟩ := hw
  have hP : va_P (dC, dI) vwCl (wD_177 h cs gI gL qA_210 gQ) H := hP
  have hD : va_D A0 (wD_177 h cs gI gL qA_210 gQ) := hD
  obtain rfl := hf_6
  refine lv_imul hx hb dX10_steps_65 ?_
  refine xt_i (y := nI 0) (by decide +kernel) ?_
  refine lv_isub hx hb dX10_steps_66 ?_
  refine xt_i (y := nI 0) (by decide +kernel) ?_
  refine lv_imul hx hb dX10_steps_67 ?_
  refine xt_i (y := nI 0) (by decide +kernel) ?_
  refine lv_if_ge (tgt := 159) hx hb dX10_steps_68 (by decide) (fun _ => ?_) (fun c9 => False.elim (by revert c9; decide +kernel))
  refine lv_iinc (v := nI 1) (lv' := [(2, .int (nI 1)), (4, .int (nI 0)), (3, .int (nI 0)), (1, .int (nI 0)), (0, .ref (h 0))]) hx hb dX10_steps_159 hl (k := 2) rfl (by decide +kernel) (by decide) rfl (fun ls hl => ?_)
  refine lv_goto (tgt := 12) hx hb dX10_steps_162 (by decide) ?_
  refine lv_iload_n hx hb dX10_steps_12 rfl (lv_at hl 0 rfl) ?_
  refine lv_aload_n hx hb dX10_steps_13 rfl (lv_at hl 4 rfl) ?_
  refine va_get (D := (dC, dI)) (ci := 10) (v := .int (gI 1)) (C := RX10) (T := TX10) (N := 28) hx hb hts hinX10 hown hK hP 0 rfl rfl 1 (by decide) (hts (.fieldLink RX10 13 "MixedWordsModel" "columns" "I") (by decide +kernel)) (fun _ h9 => h9) rfl dX10_steps_14 ?_
  refine xt_i (y := nI 2) (by decide +kernel) ?_
  refine lv_icmp_ge (tgt := 165) hx hb dX10_steps_17 (by decide) (fun c9 => False.elim (by revert c9; decide +kernel)) (fun _ => ?_)
  refine lv_aload_n hx hb dX10_steps_20 rfl (lv_at hl 4 rfl) ?_
  refine lv_iload_n hx hb dX10_steps_21 rfl (lv_at hl 0 rfl) ?_
  refine lv_iload_n hx hb dX10_steps_22 rfl (lv_at hl 0 rfl) ?_
  refine xj_i (wc := (wD_177 h cs gI gL qA_210 gQ)) (wr := ([] : va_W)) hP hD hS hA [0, 1, 2, 3, 4, 5, 6, 7, 8, 9, 10, 11, 12, 13, 14, 15, 16] [] rfl rfl (by decide) (by decide) (va_runV (As := [.int (nI 1), .int (nI 1)]) (rest := []) ⟨hx, hb, hml, hown, hts⟩ (a_X10_dot_216 l dC dI h cs H.size gI gL qA_210 gQ ) (cwV 2 hts gX10_steps_X10_dot rfl rfl rfl (by decide +kernel) ⟨Nat.le_of_ble_eq_true rfl, Nat.le_of_ble_eq_true rfl⟩) (xpV (wc := (wD_177 h cs gI gL qA_210 gQ)) hP hD hK hN [0, 1, 2, 3, 4, 5, 6, 7, 8, 9, 10, 11, 12, 13, 14, 15, 16] rfl (by decide) 0 (ci := 10) rfl rfl _) rfl rfl hl.1 rfl (lv_room (Nat.le_of_ble_eq_true rfl)) dX10_steps_23 ⟨Nat.zero_le _, Nat.zero_le _⟩) (fun r_8 u_7 H locs hw hP hD hS => ?_)
  obtain ⟨hf_9, rfl⟩ := hw
  have hP : va_P (dC, dI) vwCl (wD_177 h cs gI gL qA_210 gQ) H := hP
  have hD : va_D A0 (wD_177 h cs gI gL qA_210 gQ) := hD
  obtain rfl := hf_9
  refine lv_istore_n (lv' := [(3, .int (nI 0)), (2, .int (nI 1)), (4, .int (nI 0)), (1, .int (nI 0)), (0, .ref (h 0))]) hx hb dX10_steps_26 rfl hl (by decide) rfl (fun ls hl => ?_)
  refine lv_iload_n hx hb dX10_steps_27 rfl (lv_at hl 3 rfl) ?_
  refine lv_iload_n hx hb dX10_steps_28 rfl (lv_at hl 1 rfl) ?_
  refine lv_icmp_eq (tgt := 36) hx hb dX10_steps_29 (by decide) (fun c9 => False.elim (by revert c9; decide +kernel)) (fun _ => ?_)
  refine lv_iload_n hx hb dX10_steps_32 rfl (lv_at hl 0 rfl) ?_
  refine lv_if_ne (tgt := 40) hx hb dX10_steps_33 (by decide) (fun c9 => False.elim (by revert c9; decide +kernel)) (fun _ => ?_)
  refine lv_iconst (v := nI 0) hx hb dX10_steps_36 (by decide) ?_
  refine lv_goto (tgt := 50) hx hb dX10_steps_37 (by decide) ?_
  refine lv_istore (lv' := [(4, .int (nI 0)), (3, .int (nI 0)), (2, .int (nI 1)), (1, .int (nI 0)), (0, .ref (h 0))]) hx hb dX10_steps_50 hl (by decide) rfl (fun ls hl => ?_)
  refine lv_iload hx hb dX10_steps_52 (lv_at hl 0 rfl) ?_
  refine lv_iload hx hb dX10_steps_54 (lv_at hl 0 rfl) ?_
  refine lv_iload_n hx hb dX10_steps_56 rfl (lv_at hl 1 rfl) ?_
  refine lv_imul hx hb dX10_steps_57 ?_
  refine xt_i (y := nI 0) (by decide +kernel) ?_
  refine lv_iconst (v := nI 2) hx hb dX10_steps_58 (by decide) ?_
  refine lv_aload_n hx hb dX10_steps_59 rfl (lv_at hl 4 rfl) ?_
  refine lv_iload_n hx hb dX10_steps_60 rfl (lv_at hl 3 rfl) ?_
  refine lv_iload_n hx hb dX10_steps_61 rfl (lv_at hl 2 rfl) ?_
  refine xj_i (wc := (wD_177 h cs gI gL qA_210 gQ)) (wr := ([] : va_W)) hP hD hS hA [0, 1, 2, 3, 4, 5, 6, 7, 8, 9, 10, 11, 12, 13, 14, 15, 16] [] rfl rfl (by decide) (by decide) (va_runV (As := [.int (nI 0), .int (nI 1)]) (rest := [.int (nI 2), .int (nI 0), .int (nI 0)]) ⟨hx, hb, hml, hown, hts⟩ (a_X10_dot_219 l dC dI h cs H.size gI gL qA_210 gQ ) (cwV 2 hts gX10_steps_X10_dot rfl rfl rfl (by decide +kernel) ⟨Nat.le_of_ble_eq_true rfl, Nat.le_of_ble_eq_true rfl⟩) (xpV (wc := (wD_177 h cs gI gL qA_210 gQ)) hP hD hK hN [0, 1, 2, 3, 4, 5, 6, 7, 8, 9, 10, 11, 12, 13, 14, 15, 16] rfl (by decide) 0 (ci := 10) rfl rfl _) rfl rfl hl.1 rfl (lv_room (Nat.le_of_ble_eq_true rfl)) dX10_steps_62 ⟨Nat.zero_le _, Nat.zero_le _⟩) (fun r_11 u_10 H locs hw hP hD hS => ?_)
  obtain ⟨hf_12, rfl⟩ := hw
  have hP : va_P (dC, dI) vwCl (wD_177 h cs gI gL qA_210 gQ) H := hP
  have hD : va_D A0 (wD_177 h cs gI gL qA_210 gQ) := hD
  obtain rfl := hf_12
  refine lv_imul hx hb dX10_steps_65 ?_
  refine xt_i (y := nI 0) (by decide +kernel) ?_
  refine lv_isub hx hb dX10_steps_66 ?_
  refine xt_i (y := nI 0) (by decide +kernel) ?_
  refine lv_imul hx hb dX10_steps_67 ?_
  refine xt_i (y := nI 0) (by decide +kernel) ?_
  refine lv_if_ge (tgt := 159) hx hb dX10_steps_68 (by decide) (fun _ => ?_) (fun c9 => False.elim (by revert c9; decide +kernel))
  refine lv_iinc (v := nI 2) (lv' := [(2, .int (nI 2)), (4, .int (nI 0)), (3, .int (nI 0)), (1, .int (nI 0)), (0, .ref (h 0))]) hx hb dX10_steps_159 hl (k := 2) rfl (by decide +kernel) (by decide) rfl (fun ls hl => ?_)
  refine lv_goto (tgt := 12) hx hb dX10_steps_162 (by decide) ?_
  refine lv_iload_n hx hb dX10_steps_12 rfl (lv_at hl 0 rfl) ?_
  refine lv_aload_n hx hb dX10_steps_13 rfl (lv_at hl 4 rfl) ?_
  refine va_get (D := (dC, dI)) (ci := 10) (v := .int (gI 1)) (C := RX10) (T := TX10) (N := 28) hx hb hts hinX10 hown hK hP 0 rfl rfl 1 (by decide) (hts (.fieldLink RX10 13 "MixedWordsModel" "columns" "I") (by decide +kernel)) (fun _ h9 => h9) rfl dX10_steps_14 ?_
  refine xt_i (y := nI 2) (by decide +kernel) ?_
  refine lv_icmp_ge (tgt := 165) hx hb dX10_steps_17 (by decide) (fun _ => ?_) (fun c9 => False.elim (by revert c9; decide +kernel))
  refine lv_iinc (v := nI 1) (lv' := [(1, .int (nI 1)), (2, .int (nI 2)), (4, .int (nI 0)), (3, .int (nI 0)), (0, .ref (h 0))]) hx hb dX10_steps_165 hl (k := 3) rfl (by decide +kernel) (by decide) rfl (fun ls hl => ?_)
  refine lv_goto (tgt := 2) hx hb dX10_steps_168 (by decide) ?_
  refine lv_iload_n hx hb dX10_steps_2 rfl (lv_at hl 0 rfl) ?_
  refine lv_aload_n hx hb dX10_steps_3 rfl (lv_at hl 4 rfl) ?_
  refine va_get (D := (dC, dI)) (ci := 10) (v := .int (gI 1)) (C := RX10) (T := TX10) (N := 28) hx hb hts hinX10 hown hK hP 0 rfl rfl 1 (by decide) (hts (.fieldLink RX10 13 "MixedWordsModel" "columns" "I") (by decide +kernel)) (fun _ h9 => h9) rfl dX10_steps_4 ?_
  refine xt_i (y := nI 2) (by decide +kernel) ?_
  refine lv_icmp_ge (tgt := 171) hx hb dX10_steps_7 (by decide) (fun c9 => False.elim (by revert c9; decide +kernel)) (fun _ => ?_)
  refine lv_iconst (v := nI 0) hx hb dX10_steps_10 (by decide) ?_
  refine lv_istore_n (lv' := [(2, .int (nI 0)), (1, .int (nI 1)), (4, .int (nI 0)), (3, .int (nI 0)), (0, .ref (h 0))]) hx hb dX10_steps_11 rfl hl (by decide) rfl (fun ls hl => ?_)
  refine lv_iload_n hx hb dX10_steps_12 rfl (lv_at hl 0 rfl) ?_
  refine lv_aload_n hx hb dX10_steps_13 rfl (lv_at hl 4 rfl) ?_
  refine va_get (D := (dC, dI)) (ci := 10) (v := .int (gI 1)) (C := RX10) (T := TX10) (N := 28) hx hb hts hinX10 hown hK hP 0 rfl rfl 1 (by decide) (hts (.fieldLink RX10 13 "MixedWordsModel" "columns" "I") (by decide +kernel)) (fun _ h9 => h9) rfl dX10_steps_14 ?_
  refine xt_i (y := nI 2) (by decide +kernel) ?_
  refine lv_icmp_ge (tgt := 165) hx hb dX10_steps_17 (by decide) (fun c9 => False.elim (by revert c9; decide +kernel)) (fun _ => ?_)
  refine lv_aload_n hx hb dX10_steps_20 rfl (lv_at hl 4 rfl) ?_
  refine lv_iload_n hx hb dX10_steps_21 rfl (lv_at hl 0 rfl) ?_
  refine lv_iload_n hx hb dX10_steps_22 rfl (lv_at hl 0 rfl) ?_
  refine xj_i (wc := (wD_177 h cs gI gL qA_210 gQ)) (wr := ([] : va_W)) hP hD hS hA [0, 1, 2, 3, 4, 5, 6, 7, 8, 9, 10, 11, 12, 13, 14, 15, 16] [] rfl rfl (by decide) (by decide) (va_runV (As := [.int (nI 0), .int (nI 0)]) (rest := []) ⟨hx, hb, hml, hown, hts⟩ (a_X10_dot_212 l dC dI h cs H.size gI gL qA_210 gQ ) (cwV 2 hts gX10_steps_X10_dot rfl rfl rfl (by decide +kernel) ⟨Nat.le_of_ble_eq_true rfl, Nat.le_of_ble_eq_true rfl⟩) (xpV (wc := (wD_177 h cs gI gL qA_210 gQ)) hP hD hK hN [0, 1, 2, 3, 4, 5, 6, 7, 8, 9, 10, 11, 12, 13, 14, 15, 16] rfl (by decide) 0 (ci := 10) rfl rfl _) rfl rfl hl.1 rfl (lv_room (Nat.le_of_ble_eq_true rfl)) dX10_steps_23 ⟨Nat.zero_le _, Nat.zero_le _⟩) (fun r_14 u_13 H locs hw hP hD hS => ?_)
  obtain ⟨hf_15, rfl⟩ := hw
  have hP : va_P (dC, dI) vwCl (wD_177 h cs gI gL qA_210 gQ) H := hP
  have hD : va_D A0 (wD_177 h cs gI gL qA_210 gQ) := hD
  obtain rfl := hf_15
  refine lv_istore_n (lv' := [(3, .int (nI 0)), (2, .int (nI 0)), (1, .int (nI 1)), (4, .int (nI 0)), (0, .ref (h 0))]) hx hb dX10_steps_26 rfl hl (by decide) rfl (fun ls hl => ?_)
  refine lv_iload_n hx hb dX10_steps_27 rfl (lv_at hl 2 rfl) ?_
  refine lv_iload_n hx hb dX10_steps_28 rfl (lv_at hl 1 rfl) ?_
  refine lv_icmp_eq (tgt := 36) hx hb dX10_steps_29 (by decide) (fun c9 => False.elim (by revert c9; decide +kernel)) (fun _ => ?_)
  refine lv_iload_n hx hb dX10_steps_32 rfl (lv_at hl 0 rfl) ?_
  refine lv_if_ne (tgt := 40) hx hb dX10_steps_33 (by decide) (fun c9 => False.elim (by revert c9; decide +kernel)) (fun _ => ?_)
  refine lv_iconst (v := nI 0) hx hb dX10_steps_36 (by decide) ?_
  refine lv_goto (tgt := 50) hx hb dX10_steps_37 (by decide) ?_
  refine lv_istore (lv' := [(4, .int (nI 0)), (3, .int (nI 0)), (2, .int (nI 0)), (1, .int (nI 1)), (0, .ref (h 0))]) hx hb dX10_steps_50 hl (by decide) rfl (fun ls hl => ?_)
  refine lv_iload hx hb dX10_steps_52 (lv_at hl 0 rfl) ?_
  refine lv_iload hx hb dX10_steps_54 (lv_at hl 0 rfl) ?_
  refine lv_iload_n hx hb dX10_steps_56 rfl (lv_at hl 1 rfl) ?_
  refine lv_imul hx hb dX10_steps_57 ?_
  refine xt_i (y := nI 0) (by decide +kernel) ?_
  refine lv_iconst (v := nI 2) hx hb dX10_steps_58 (by decide) ?_
  refine lv_aload_n hx hb dX10_steps_59 rfl (lv_at hl 4 rfl) ?_
  refine lv_iload_n hx hb dX10_steps_60 rfl (lv_at hl 3 rfl) ?_
  refine lv_iload_n hx hb dX10_steps_61 rfl (lv_at hl 2 rfl) ?_
  refine xj_i (wc := (wD_177 h cs gI gL qA_210 gQ)) (wr := ([] : va_W)) hP hD hS hA [0, 1, 2, 3, 4, 5, 6, 7, 8, 9, 10, 11, 12, 13, 14, 15, 16] [] rfl rfl (by decide) (by decide) (va_runV (As := [.int (nI 1), .int (nI 0)]) (rest := [.int (nI 2), .int (nI 0), .int (nI 0)]) ⟨hx, hb, hml, hown, hts⟩ (a_X10_dot_220 l dC dI h cs H.size gI gL qA_210 gQ ) (cwV 2 hts gX10_steps_X10_dot rfl rfl rfl (by decide +kernel) ⟨Nat.le_of_ble_eq_true rfl, Nat.le_of_ble_eq_true rfl⟩) (xpV (wc := (wD_177 h cs gI gL qA_210 gQ)) hP hD hK hN [0, 1, 2, 3, 4, 5, 6, 7, 8, 9, 10, 11, 12, 13, 14, 15, 16] rfl (by decide) 0 (ci := 10) rfl rfl _) rfl rfl hl.1 rfl (lv_room (Nat.le_of_ble_eq_true rfl)) dX10_steps_62 ⟨Nat.zero_le _, Nat.zero_le _⟩) (fun r_17 u_16 H locs hw hP hD hS => ?_)
  obtain ⟨hf_18, rfl⟩ := hw
  have hP : va_P (dC, dI) vwCl (wD_177 h cs gI gL qA_210 gQ) H := hP
  have hD : va_D A0 (wD_177 h cs gI gL qA_210 gQ) := hD
  obtain rfl := hf_18
  refine lv_imul hx hb dX10_steps_65 ?_
  refine xt_i (y := nI 0) (by decide +kernel) ?_
  refine lv_isub hx hb dX10_steps_66 ?_
  refine xt_i (y := nI 0) (by decide +kernel) ?_
  refine lv_imul hx hb dX10_steps_67 ?_
  refine xt_i (y := nI 0) (by decide +kernel) ?_
  refine lv_if_ge (tgt := 159) hx hb dX10_steps_68 (by decide) (fun _ => ?_) (fun c9 => False.elim (by revert c9; decide +kernel))
  refine lv_iinc (v := nI 1) (lv' := [(2, .int (nI 1)), (4, .int (nI 0)), (3, .int (nI 0)), (1, .int (nI 1)), (0, .ref (h 0))]) hx hb dX10_steps_159 hl (k := 2) rfl (by decide +kernel) (by decide) rfl (fun ls hl => ?_)
  refine lv_goto (tgt := 12) hx hb dX10_steps_162 (by decide) ?_
  refine lv_iload_n hx hb dX10_steps_12 rfl (lv_at hl 0 rfl) ?_
  refine lv_aload_n hx hb dX10_steps_13 rfl (lv_at hl 4 rfl) ?_
  refine va_get (D := (dC, dI)) (ci := 10) (v := .int (gI 1)) (C := RX10) (T := TX10) (N := 28) hx hb hts hinX10 hown hK hP 0 rfl rfl 1 (by decide) (hts (.fieldLink RX10 13 "MixedWordsModel" "columns" "I") (by decide +kernel)) (fun _ h9 => h9) rfl dX10_steps_14 ?_
  refine xt_i (y := nI 2) (by decide +kernel) ?_
  refine lv_icmp_ge (tgt := 165) hx hb dX10_steps_17 (by decide) (fun c9 => False.elim (by revert c9; decide +kernel)) (fun _ => ?_)
  refine lv_aload_n hx hb dX10_steps_20 rfl (lv_at hl 4 rfl) ?_
  refine lv_iload_n hx hb dX10_steps_21 rfl (lv_at hl 0 rfl) ?_
  refine lv_iload_n hx hb dX10_steps_22 rfl (lv_at hl 0 rfl) ?_
  refine xj_i (wc := (wD_177 h cs gI gL qA_210 gQ)) (wr := ([] : va_W)) hP hD hS hA [0, 1, 2, 3, 4, 5, 6, 7, 8, 9, 10, 11, 12, 13, 14, 15, 16] [] rfl rfl (by decide) (by decide) (va_runV (As := [.int (nI 1), .int (nI 1)]) (rest := []) ⟨hx, hb, hml, hown, hts⟩ (a_X10_dot_216 l dC dI h cs H.size gI gL qA_210 gQ ) (cwV 2 hts gX10_steps_X10_dot rfl rfl rfl (by decide +kernel) ⟨Nat.le_of_ble_eq_true rfl, Nat.le_of_ble_eq_true rfl⟩) (xpV (wc := (wD_177 h cs gI gL qA_210 gQ)) hP hD hK hN [0, 1, 2, 3, 4, 5, 6, 7, 8, 9, 10, 11, 12, 13, 14, 15, 16] rfl (by decide) 0 (ci := 10) rfl rfl _) rfl rfl hl.1 rfl (lv_room (Nat.le_of_ble_eq_true rfl)) dX10_steps_23 ⟨Nat.zero_le _, Nat.zero_le _⟩) (fun r_20 u_19 H locs hw hP hD hS => ?_)
  obtain ⟨hf_21, rfl⟩ := hw
  have hP : va_P (dC, dI) vwCl (wD_177 h cs gI gL qA_210 gQ) H := hP
  have hD : va_D A0 (wD_177 h cs gI gL qA_210 gQ) := hD
  obtain rfl := hf_21
  refine lv_istore_n (lv' := [(3, .int (nI 0)), (2, .int (nI 1)), (4, .int (nI 0)), (1, .int (nI 1)), (0, .ref (h 0))]) hx hb dX10_steps_26 rfl hl (by decide) rfl (fun ls hl => ?_)
  refine lv_iload_n hx hb dX10_steps_27 rfl (lv_at hl 3 rfl) ?_
  refine lv_iload_n hx hb dX10_steps_28 rfl (lv_at hl 1 rfl) ?_
  refine lv_icmp_eq (tgt := 36) hx hb dX10_steps_29 (by decide) (fun _ => ?_) (fun c9 => False.elim (by revert c9; decide +kernel))
  refine lv_iconst (v := nI 0) hx hb dX10_steps_36 (by decide) ?_
  refine lv_goto (tgt := 50) hx hb dX10_steps_37 (by decide) ?_
  refine lv_istore (lv' := [(4, .int (nI 0)), (3, .int (nI 0)), (2, .int (nI 1)), (1, .int (nI 1)), (0, .ref (h 0))]) hx hb dX10_steps_50 hl (by decide) rfl (fun ls hl => ?_)
  refine lv_iload hx hb dX10_steps_52 (lv_at hl 0 rfl) ?_
  refine lv_iload hx hb dX10_steps_54 (lv_at hl 0 rfl) ?_
  refine lv_iload_n hx hb dX10_steps_56 rfl (lv_at hl 1 rfl) ?_
  refine lv_imul hx hb dX10_steps_57 ?_
  refine xt_i (y := nI 0) (by decide +kernel) ?_
  refine lv_iconst (v := nI 2) hx hb dX10_steps_58 (by decide) ?_
  refine lv_aload_n hx hb dX10_steps_59 rfl (lv_at hl 4 rfl) ?_
  refine lv_iload_n hx hb dX10_steps_60 rfl (lv_at hl 3 rfl) ?_
  refine lv_iload_n hx hb dX10_steps_61 rfl (lv_at hl 2 rfl) ?_
  refine xj_i (wc := (wD_177 h cs gI gL qA_210 gQ)) (wr := ([] : va_W)) hP hD hS hA [0, 1, 2, 3, 4, 5, 6, 7, 8, 9, 10, 11, 12, 13, 14, 15, 16] [] rfl rfl (by decide) (by decide) (va_runV (As := [.int (nI 1), .int (nI 1)]) (rest := [.int (nI 2), .int (nI 0), .int (nI 0)]) ⟨hx, hb, hml, hown, hts⟩ (a_X10_dot_216 l dC dI h cs H.size gI gL qA_210 gQ ) (cwV 2 hts gX10_steps_X10_dot rfl rfl rfl (by decide +kernel) ⟨Nat.le_of_ble_eq_true rfl, Nat.le_of_ble_eq_true rfl⟩) (xpV (wc := (wD_177 h cs gI gL qA_210 gQ)) hP hD hK hN [0, 1, 2, 3, 4, 5, 6, 7, 8, 9, 10, 11, 12, 13, 14, 15, 16] rfl (by decide) 0 (ci := 10) rfl rfl _) rfl rfl hl.1 rfl (lv_room (Nat.le_of_ble_eq_true rfl)) dX10_steps_62 ⟨Nat.zero_le _, Nat.zero_le _⟩) (fun r_23 u_22 H locs hw hP hD hS => ?_)
  obtain ⟨hf_24, rfl⟩ := hw
  have hP : va_P (dC, dI) vwCl (wD_177 h cs gI gL qA_210 gQ) H := hP
  have hD : va_D A0 (wD_177 h cs gI gL qA_210 gQ) := hD
  obtain rfl := hf_24
  refine lv_imul hx hb dX10_steps_65 ?_
  refine xt_i (y := nI 0) (by decide +kernel) ?_
  refine lv_isub hx hb dX10_steps_66 ?_
  refine xt_i (y := nI 0) (by decide +kernel) ?_
  refine lv_imul hx hb dX10_steps_67 ?_
  refine xt_i (y := nI 0) (by decide +kernel) ?_
  refine lv_if_ge (tgt := 159) hx hb dX10_steps_68 (by decide) (fun _ => ?_) (fun c9 => False.elim (by revert c9; decide +kernel))
  refine lv_iinc (v := nI 2) (lv' := [(2, .int (nI 2)), (4, .int (nI 0)), (3, .int (nI 0)), (1, .int (nI 1)), (0, .ref (h 0))]) hx hb dX10_steps_159 hl (k := 2) rfl (by decide +kernel) (by decide) rfl (fun ls hl => ?_)
  refine lv_goto (tgt := 12) hx hb dX10_steps_162 (by decide) ?_
  refine lv_iload_n hx hb dX10_steps_12 rfl (lv_at hl 0 rfl) ?_
  refine lv_aload_n hx hb dX10_steps_13 rfl (lv_at hl 4 rfl) ?_
  refine va_get (D := (dC, dI)) (ci := 10) (v := .int (gI 1)) (C := RX10) (T := TX10) (N := 28) hx hb hts hinX10 hown hK hP 0 rfl rfl 1 (by decide) (hts (.fieldLink RX10 13 "MixedWordsModel" "columns" "I") (by decide +kernel)) (fun _ h9 => h9) rfl dX10_steps_14 ?_
  refine xt_i (y := nI 2) (by decide +kernel) ?_
  refine lv_icmp_ge (tgt := 165) hx hb dX10_steps_17 (by decide) (fun _ => ?_) (fun c9 => False.elim (by revert c9; decide +kernel))
  refine lv_iinc (v := nI 2) (lv' := [(1, .int (nI 2)), (2, .int (nI 2)), (4, .int (nI 0)), (3, .int (nI 0)), (0, .ref (h 0))]) hx hb dX10_steps_165 hl (k := 3) rfl (by decide +kernel) (by decide) rfl (fun ls hl => ?_)
  refine lv_goto (tgt := 2) hx hb dX10_steps_168 (by decide) ?_
  refine lv_iload_n hx hb dX10_steps_2 rfl (lv_at hl 0 rfl) ?_
  refine lv_aload_n hx hb dX10_steps_3 rfl (lv_at hl 4 rfl) ?_
  refine va_get (D := (dC, dI)) (ci := 10) (v := .int (gI 1)) (C := RX10) (T := TX10) (N := 28) hx hb hts hinX10 hown hK hP 0 rfl rfl 1 (by decide) (hts (.fieldLink RX10 13 "MixedWordsModel" "columns" "I") (by decide +kernel)) (fun _ h9 => h9) rfl dX10_steps_4 ?_
  refine xt_i (y := nI 2) (by decide +kernel) ?_
  refine lv_icmp_ge (tgt := 171) hx hb dX10_steps_7 (by decide) (fun _ => ?_) (fun c9 => False.elim (by revert c9; decide +kernel))
  refine lv_iconst (v := nI 0) hx hb dX10_steps_171 (by decide) ?_
  exact xr_z (v := (nI 0)) hx hb hr hlocks hK hS dX10_steps_172 (rfl) (gI, gL, qA_210, gQ) ⟨rfl, rfl⟩ hP hD
set_option maxRecDepth 20000 in
theorem ggX10_lead_X10_lay : GoodIn wsX10_lead wsX10_lay := goodIn_r _ [5, 6, 7, 8, 9, 10, 22, 23, 24, 25, 26, 27, 28, 29, 30, 31, 32, 33, 34, 35, 36, 37, 38, 39, 40, 41, 42, 43, 44, 45, 46, 47, 48, 49] (by decide +kernel) (by decide +kernel)
set_option maxRecDepth 20000 in
theorem gX10_lead_X10_lay : GoodIn wsX10_lead (wsV RX10 172 RX10 yX10_lay wsX10_lay) := goodIn_app (goodIn_of _ (by decide +kernel)) ggX10_lead_X10_lay
set_option maxRecDepth 20000 in
theorem ggX10_lead_X10_steps : GoodIn wsX10_lead wsX10_steps := goodIn_r _ [14, 7, 6, 10, 15, 16, 17, 4, 18, 19, 20, 21, 22, 23, 24, 25, 26, 27, 28, 29, 30, 31, 32, 33, 34, 35, 36, 37, 38, 39, 40, 41, 42, 43, 44, 45, 46, 47, 48, 49] (by decide +kernel) (by decide +kernel)
set_option maxRecDepth 20000 in
theorem gX10_lead_X10_steps : GoodIn wsX10_lead (wsV RX10 225 RX10 yX10_steps wsX10_steps) := goodIn_app (goodIn_of _ (by decide +kernel)) ggX10_lead_X10_steps
theorem dX10_lead_0 : decode cX10_lead 0 = .ok (.aload_n 0, 1) := by decide +kernel
theorem dX10_lead_1 : decode cX10_lead 1 = .ok (.invokevirtual 172, 3) := by decide +kernel
theorem dX10_lead_4 : decode cX10_lead 4 = .ok (.iconst 0, 1) := by decide +kernel
theorem dX10_lead_5 : decode cX10_lead 5 = .ok (.istore_n 1, 1) := by decide +kernel
theorem dX10_lead_6 : decode cX10_lead 6 = .ok (.aload_n 0, 1) := by decide +kernel
theorem dX10_lead_7 : decode cX10_lead 7 = .ok (.invokevirtual 225, 3) := by decide +kernel
theorem dX10_lead_10 : decode cX10_lead 10 = .ok (.ifCond .eq 9, 3) := by decide +kernel
theorem dX10_lead_13 : decode cX10_lead 13 = .ok (.iinc 1 1, 3) := by decide +kernel
theorem dX10_lead_16 : decode cX10_lead 16 = .ok (.goto (-10), 3) := by decide +kernel
theorem dX10_lead_19 : decode cX10_lead 19 = .ok (.iload_n 1, 1) := by decide +kernel
theorem dX10_lead_20 : decode cX10_lead 20 = .ok (.ireturn, 1) := by decide +kernel
set_option maxHeartbeats 4000000 in
set_option maxRecDepth 100000 in
theorem a_X10_lead_229 (l : Launch) (dC : Nat → ClassId) (dI : Nat → Nat → Nat) (h : Nat → Nat) (cs : Nat → ClassId) (sz : Nat) (I : Nat → Int32) (L : Nat → Int64) (A : Nat → Nat → Int32) (Q : Nat → Nat → Int64) : Met l yX10_lead wsX10_lead ({ frames := 2, cells := 0, slots := 0, locals := 49 }) (va_Pc [.ref (h 0)] (xPre (dC, dI) (wD_177 h cs gI gL gA gQ) (tysA cs) sz)) (va_Qi (fun (r : Int32) (u : RS) => (r = nI 0) ∧ u = (gI, gL, qA_210, gQ)) (xB (dC, dI) (tysA cs) (va_A (wD_177 h cs gI gL gA gQ) sz) (fun u : RS => wD_177 h cs u.1 u.2.1 u.2.2.1 u.2.2.2)) (va_A (wD_177 h cs gI gL gA gQ) sz)) 0 0 (va_A (wD_177 h cs gI gL gA gQ) sz) := by
  refine Met.ofW (cc := cX10_lead) (maxL := 2) (ret := (some .int)) (by decide) rfl ?_
  intro p e s m args below meth c s₁ B hml hv
  obtain ⟨rfl, hsz, hP, hK, hD0, hN⟩ := hv
  have hx := B.exec
  have hb := B.bytes
  have hr := B.returns
  have hts := atoms_spec (ws := wsX10_lead) B.pre
  have hown : s.vm.findClass RX10 = some m.cls := findClass_of_methodNamed B.named
  have hlocks := B.notSynchronized
  subst hsz
  have hD := hD0.self (sz := s.heap.size)
  generalize hAe : va_A (wD_177 h cs gI gL gA gQ) s.heap.size = A0 at hD ⊢
  have hA : ∀ q : Nat, s.heap.size ≤ q → A0 q := fun q h => by rw [← hAe]; exact Or.inr h
  have hl := lv_entry ([.ref (h 0)]) (n := 2) (Nat.le_of_ble_eq_true rfl)
  rw [lg_entry_eq]
  generalize (lg_sl ([.ref (h 0)]) ++ List.replicate (2 - (lg_sl ([.ref (h 0)])).length) Slot.unset).toArray = ls at hl ⊢
  have hl : lv_has ls 2 [(0, .ref (h 0))] := hl
  generalize hH : s.heap = H at hP ⊢
  have hS : va_S A0 s.heap H [] := by rw [← hH]; exact va_S.rf
  refine lv_aload_n hx hb dX10_lead_0 rfl (lv_at hl 0 rfl) ?_
  refine xj_v (wc := (wD_177 h cs gI gL gA gQ)) (wr := ([] : va_W)) hP hD hS hA [0, 1, 2, 3, 4, 5, 6, 7, 8, 9, 10, 11, 12, 13, 14, 15, 16] [] rfl rfl (by decide) (by decide) (va_runV (As := []) (rest := []) ⟨hx, hb, hml, hown, hts⟩ (a_X10_lay_209 l dC dI h cs H.size gI gL gA gQ ) (cwV 0 hts gX10_lead_X10_lay rfl rfl rfl (by decide +kernel) ⟨Nat.le_of_ble_eq_true rfl, Nat.le_of_ble_eq_true rfl⟩) (xpV (wc := (wD_177 h cs gI gL gA gQ)) hP hD hK hN [0, 1, 2, 3, 4, 5, 6, 7, 8, 9, 10, 11, 12, 13, 14, 15, 16] rfl (by decide) 0 (ci := 10) rfl rfl _) rfl rfl hl.1 rfl (lv_room (Nat.le_of_ble_eq_true rfl)) dX10_lead_1 ⟨Nat.zero_le _, Nat.zero_le _⟩) (fun u_1 H locs hw hP hD hS => ?_)
  obtain ⟨hf_3, rfl⟩ := hw
  have hP : va_P (dC, dI) vwCl (wD_177 h cs gI gL qA_210 gQ) H := hP
  have hD : va_D A0 (wD_177 h cs gI gL qA_210 gQ) := hD
  refine lv_iconst (v := nI 0) hx hb dX10_lead_4 (by decide) ?_
  refine lv_istore_n (lv' := [(1, .int (nI 0)), (0, .ref (h 0))]) hx hb dX10_lead_5 rfl hl (by decide) rfl (fun ls hl => ?_)
  refine lv_aload_n hx hb dX10_lead_6 rfl (lv_at hl 1 rfl) ?_
  refine xj_i (wc := (wD_177 h cs gI gL qA_210 gQ)) (wr := ([] : va_W)) hP hD hS hA [0, 1, 2, 3, 4, 5, 6, 7, 8, 9, 10, 11, 12, 13, 14, 15, 16] [] rfl rfl (by decide) (by decide) (va_runV (As := []) (rest := []) ⟨hx, hb, hml, hown, hts⟩ (a_X10_steps_230 l dC dI h cs H.size gI gL qA_210 gQ ) (cwV 0 hts gX10_lead_X10_steps rfl rfl rfl (by decide +kernel) ⟨Nat.le_of_ble_eq_true rfl, Nat.le_of_ble_eq_true rfl⟩) (xpV (wc := (wD_177 h cs gI gL qA_210 gQ)) hP hD hK hN [0, 1, 2, 3, 4, 5, 6, 7, 8, 9, 10, 11, 12, 13, 14, 15, 16] rfl (by decide) 0 (ci := 10) rfl rfl _) rfl rfl hl.1 rfl (lv_room (Nat.le_of_ble_eq_true rfl)) dX10_lead_7 ⟨Nat.zero_le _, Nat.zero_le _⟩) (fun r_5 u_4 H locs hw hP hD hS => ?_)
  obtain ⟨hf_6, rfl⟩ := hw
  have hP : va_P (dC, dI) vwCl (wD_177 h cs gI gL qA_210 gQ) H := hP
  have hD : va_D A0 (wD_177 h cs gI gL qA_210 gQ) := hD
  obtain rfl := hf_6
  refine lv_if_eq (tgt := 19) hx hb dX10_lead_10 (by decide) (fun _ => ?_) (fun c9 => False.elim (by revert c9; decide +kernel))
  refine lv_iload_n hx hb dX10_lead_19 rfl (lv_at hl 0 rfl) ?_
  exact xr_i (v := (nI 0)) hx hb hr hlocks hK hS dX10_lead_20 (gI, gL, qA_210, gQ) ⟨rfl, rfl⟩ hP hD
set_option maxHeartbeats 4000000 in
set_option maxRecDepth 100000 in
theorem a_X10_isRow_231 (l : Launch) (dC : Nat → ClassId) (dI : Nat → Nat → Nat) (h : Nat → Nat) (cs : Nat → ClassId) (sz : Nat) (I : Nat → Int32) (L : Nat → Int64) (A : Nat → Nat → Int32) (Q : Nat → Nat → Int64) : Met l yX10_isRow wsX10_isRow ({ frames := 1, cells := 0, slots := 0, locals := 25 }) (va_Pc [.ref (h 0), .int (nI 1)] (xPre (dC, dI) (wD_177 h cs gI gL gA gQ) (tysA cs) sz)) (va_Qi (fun (r : Int32) (u : RS) => (r = nI 1) ∧ u = (gI, gL, gA, gQ)) (xB (dC, dI) (tysA cs) (va_A (wD_177 h cs gI gL gA gQ) sz) (fun u : RS => wD_177 h cs u.1 u.2.1 u.2.2.1 u.2.2.2)) (va_A (wD_177 h cs gI gL gA gQ) sz)) 0 0 (va_A (wD_177 h cs gI gL gA gQ) sz) := by
  refine Met.ofW (cc := cX10_isRow) (maxL := 2) (ret := (some .boolean)) (by decide) rfl ?_
  intro p e s m args below meth c s₁ B hml hv
  obtain ⟨rfl, hsz, hP, hK, hD0, hN⟩ := hv
  have hx := B.exec
  have hb := B.bytes
  have hr := B.returns
  have hts := atoms_spec (ws := wsX10_isRow) B.pre
  have hown : s.vm.findClass RX10 = some m.cls := findClass_of_methodNamed B.named
  have hlocks := B.notSynchronized
  subst hsz
  have hD := hD0.self (sz := s.heap.size)
  generalize hAe : va_A (wD_177 h cs gI gL gA gQ) s.heap.size = A0 at hD ⊢
  have hA : ∀ q : Nat, s.heap.size ≤ q → A0 q := fun q h => by rw [← hAe]; exact Or.inr h
  have hl := lv_entry ([.ref (h 0), .int (nI 1)]) (n := 2) (Nat.le_of_ble_eq_true rfl)
  rw [lg_entry_eq]
  generalize (lg_sl ([.ref (h 0), .int (nI 1)]) ++ List.replicate (2 - (lg_sl ([.ref (h 0), .int (nI 1)])).length) Slot.unset).toArray = ls at hl ⊢
  have hl : lv_has ls 2 [(0, .ref (h 0)), (1, .int (nI 1))] := hl
  generalize hH : s.heap = H at hP ⊢
  have hS : va_S A0 s.heap H [] := by rw [← hH]; exact va_S.rf
  have hinX10 : ∀ w ∈ wsX100, w ∈ wsX10_isRow := by decide +kernel
  refine lv_iload_n hx hb dX10_isRow_0 rfl (lv_at hl 1 rfl) ?_
  refine lv_i2l (v := (1 : Int64)) hx hb dX10_isRow_1 (by decide +kernel) ?_
  refine lv_lconst (v := 0) hx hb dX10_isRow_2 rfl ?_
  refine lv_aload_n hx hb dX10_isRow_3 rfl (lv_at hl 0 rfl) ?_
  refine va_get (D := (dC, dI)) (ci := 10) (v := .int (gI 0)) (C := RX10) (T := TX10) (N := 28) hx hb hts hinX10 hown hK hP 0 rfl rfl 0 (by decide) (hts (.fieldLink RX10 7 "MixedWordsModel" "rows" "I") (by decide +kernel)) (fun _ h9 => h9) rfl dX10_isRow_4 ?_
  refine xt_i (y := nI 2) (by decide +kernel) ?_
  refine lv_iconst (v := nI 1) hx hb dX10_isRow_7 (by decide) ?_
  refine lv_isub hx hb dX10_isRow_8 ?_
  refine xt_i (y := nI 1) (by decide +kernel) ?_
  refine lv_i2l (v := (1 : Int64)) hx hb dX10_isRow_9 (by decide +kernel) ?_
  refine xj_i (wc := ([] : va_W)) (wr := (wD_177 h cs gI gL gA gQ)) hP hD hS hA [] [0, 1, 2, 3, 4, 5, 6, 7, 8, 9, 10, 11, 12, 13, 14, 15, 16] rfl rfl (by decide) (by decide) (va_runS (As := [.long (1 : Int64), .long (0 : Int64), .long (1 : Int64)]) (rest := []) ⟨hx, hb, hml, hown, hts⟩ (a_X10_in_206 l dC dI h cs H.size I L A Q ) (va_cwS 3 hts gX10_isRow_X10_in rfl rfl rfl (by decide +kernel) ⟨Nat.le_of_ble_eq_true rfl, Nat.le_of_ble_eq_true rfl⟩) (xpS (wc := ([] : va_W)) hP hD hK hN [] rfl (by decide) _) rfl rfl hl.1 rfl (lv_room (Nat.le_of_ble_eq_true rfl)) dX10_isRow_10 ⟨Nat.zero_le _, Nat.zero_le _⟩) (fun r_2 u_1 H locs hw hP hD hS => ?_)
  obtain ⟨hf_3, rfl⟩ := hw
  have hP : va_P (dC, dI) vwCl (wD_177 h cs gI gL gA gQ) H := hP
  have hD : va_D A0 (wD_177 h cs gI gL gA gQ) := hD
  obtain rfl := hf_3
  exact xr_z (v := (nI 1)) hx hb hr hlocks hK hS dX10_isRow_13 (rfl) (gI, gL, gA, gQ) ⟨rfl, rfl⟩ hP hD
set_option maxRecDepth 20000 in
theorem ggX10_ledAt_X10_in : GoodIn wsX10_ledAt wsX10_in := goodIn_r _ [7] (by decide +kernel) (by decide +kernel)
set_option maxRecDepth 20000 in
theorem gX10_ledAt_X10_in : GoodIn wsX10_ledAt (va_wsS RX10 77 yX10_in wsX10_in) := goodIn_app (goodIn_of _ (by decide +kernel)) ggX10_ledAt_X10_in
set_option maxRecDepth 20000 in
theorem ggX10_ledAt_X10_isColumn : GoodIn wsX10_ledAt wsX10_isColumn := goodIn_r _ [11, 12, 4, 5, 6, 7, 38, 39, 40, 41, 42, 43, 44, 45, 46, 47, 48, 49, 50, 51, 52, 53, 54, 55, 56, 57, 58, 59, 60, 61, 62, 63, 64, 65] (by decide +kernel) (by decide +kernel)
set_option maxRecDepth 20000 in
theorem gX10_ledAt_X10_isColumn : GoodIn wsX10_ledAt (wsV RX10 90 RX10 yX10_isColumn wsX10_isColumn) := goodIn_app (goodIn_of _ (by decide +kernel)) ggX10_ledAt_X10_isColumn
set_option maxRecDepth 20000 in
theorem ggX10_ledAt_X10_isRow : GoodIn wsX10_ledAt wsX10_isRow := goodIn_r _ [16, 17, 4, 5, 6, 7, 38, 39, 40, 41, 42, 43, 44, 45, 46, 47, 48, 49, 50, 51, 52, 53, 54, 55, 56, 57, 58, 59, 60, 61, 62, 63, 64, 65] (by decide +kernel) (by decide +kernel)
set_option maxRecDepth 20000 in
theorem gX10_ledAt_X10_isRow : GoodIn wsX10_ledAt (wsV RX10 86 RX10 yX10_isRow wsX10_isRow) := goodIn_app (goodIn_of _ (by decide +kernel)) ggX10_ledAt_X10_isRow
set_option maxRecDepth 20000 in
theorem ggX10_ledAt_X10_lead : GoodIn wsX10_ledAt wsX10_lead := goodIn_r _ [21, 22, 23, 24, 6, 25, 2, 12, 17, 26, 3, 27, 28, 29, 30, 31, 32, 33, 34, 35, 36, 37, 38, 39, 40, 41, 42, 43, 44, 45, 46, 47, 48, 49, 50, 51, 52, 53, 54, 55, 56, 57, 58, 59, 60, 61, 62, 63, 64, 65] (by decide +kernel) (by decide +kernel)
set_option maxRecDepth 20000 in
theorem gX10_ledAt_X10_lead : GoodIn wsX10_ledAt (wsV RX10 229 RX10 yX10_lead wsX10_lead) := goodIn_app (goodIn_of _ (by decide +kernel)) ggX10_ledAt_X10_lead
theorem dX10_ledAt_0 : decode cX10_ledAt 0 = .ok (.iload_n 1, 1) := by decide +kernel
theorem dX10_ledAt_1 : decode cX10_ledAt 1 = .ok (.i2l, 1) := by decide +kernel
theorem dX10_ledAt_2 : decode cX10_ledAt 2 = .ok (.lconst 0, 1) := by decide +kernel
theorem dX10_ledAt_3 : decode cX10_ledAt 3 = .ok (.lconst 1, 1) := by decide +kernel
theorem dX10_ledAt_4 : decode cX10_ledAt 4 = .ok (.invokestatic 77, 3) := by decide +kernel
theorem dX10_ledAt_7 : decode cX10_ledAt 7 = .ok (.ifCond .eq 38, 3) := by decide +kernel
theorem dX10_ledAt_10 : decode cX10_ledAt 10 = .ok (.aload_n 0, 1) := by decide +kernel
theorem dX10_ledAt_11 : decode cX10_ledAt 11 = .ok (.iload_n 3, 1) := by decide +kernel
theorem dX10_ledAt_12 : decode cX10_ledAt 12 = .ok (.invokevirtual 90, 3) := by decide +kernel
theorem dX10_ledAt_15 : decode cX10_ledAt 15 = .ok (.ifCond .eq 30, 3) := by decide +kernel
theorem dX10_ledAt_18 : decode cX10_ledAt 18 = .ok (.iload_n 1, 1) := by decide +kernel
theorem dX10_ledAt_19 : decode cX10_ledAt 19 = .ok (.ifCond .ne 14, 3) := by decide +kernel
theorem dX10_ledAt_22 : decode cX10_ledAt 22 = .ok (.aload_n 0, 1) := by decide +kernel
theorem dX10_ledAt_23 : decode cX10_ledAt 23 = .ok (.iload_n 2, 1) := by decide +kernel
theorem dX10_ledAt_24 : decode cX10_ledAt 24 = .ok (.invokevirtual 86, 3) := by decide +kernel
theorem dX10_ledAt_27 : decode cX10_ledAt 27 = .ok (.ifCond .eq 18, 3) := by decide +kernel
theorem dX10_ledAt_30 : decode cX10_ledAt 30 = .ok (.goto 11, 3) := by decide +kernel
theorem dX10_ledAt_33 : decode cX10_ledAt 33 = .ok (.aload_n 0, 1) := by decide +kernel
theorem dX10_ledAt_34 : decode cX10_ledAt 34 = .ok (.iload_n 2, 1) := by decide +kernel
theorem dX10_ledAt_35 : decode cX10_ledAt 35 = .ok (.invokevirtual 90, 3) := by decide +kernel
theorem dX10_ledAt_38 : decode cX10_ledAt 38 = .ok (.ifCond .eq 7, 3) := by decide +kernel
theorem dX10_ledAt_41 : decode cX10_ledAt 41 = .ok (.iconst 1, 1) := by decide +kernel
theorem dX10_ledAt_42 : decode cX10_ledAt 42 = .ok (.goto 4, 3) := by decide +kernel
theorem dX10_ledAt_45 : decode cX10_ledAt 45 = .ok (.iconst 0, 1) := by decide +kernel
theorem dX10_ledAt_46 : decode cX10_ledAt 46 = .ok (.istore 4, 2) := by decide +kernel
theorem dX10_ledAt_48 : decode cX10_ledAt 48 = .ok (.iload 4, 2) := by decide +kernel
theorem dX10_ledAt_50 : decode cX10_ledAt 50 = .ok (.ifCond .ne 6, 3) := by decide +kernel
theorem dX10_ledAt_53 : decode cX10_ledAt 53 = .ok (.ldc 232, 2) := by decide +kernel
theorem dX10_ledAt_55 : decode cX10_ledAt 55 = .ok (.ireturn, 1) := by decide +kernel
theorem dX10_ledAt_56 : decode cX10_ledAt 56 = .ok (.aload_n 0, 1) := by decide +kernel
theorem dX10_ledAt_57 : decode cX10_ledAt 57 = .ok (.invokevirtual 229, 3) := by decide +kernel
theorem dX10_ledAt_60 : decode cX10_ledAt 60 = .ok (.istore 5, 2) := by decide +kernel
theorem dX10_ledAt_62 : decode cX10_ledAt 62 = .ok (.iload_n 1, 1) := by decide +kernel
theorem dX10_ledAt_63 : decode cX10_ledAt 63 = .ok (.ifCond .ne 16, 3) := by decide +kernel
theorem dX10_ledAt_66 : decode cX10_ledAt 66 = .ok (.aload_n 0, 1) := by decide +kernel
theorem dX10_ledAt_67 : decode cX10_ledAt 67 = .ok (.getfield 41, 3) := by decide +kernel
theorem dX10_ledAt_70 : decode cX10_ledAt 70 = .ok (.iconst 5, 1) := by decide +kernel
theorem dX10_ledAt_71 : decode cX10_ledAt 71 = .ok (.iload_n 3, 1) := by decide +kernel
theorem dX10_ledAt_72 : decode cX10_ledAt 72 = .ok (.imul, 1) := by decide +kernel
theorem dX10_ledAt_73 : decode cX10_ledAt 73 = .ok (.iload_n 2, 1) := by decide +kernel
theorem dX10_ledAt_74 : decode cX10_ledAt 74 = .ok (.iadd, 1) := by decide +kernel
theorem dX10_ledAt_75 : decode cX10_ledAt 75 = .ok (.iaload, 1) := by decide +kernel
theorem dX10_ledAt_76 : decode cX10_ledAt 76 = .ok (.goto 13, 3) := by decide +kernel
theorem dX10_ledAt_79 : decode cX10_ledAt 79 = .ok (.aload_n 0, 1) := by decide +kernel
theorem dX10_ledAt_80 : decode cX10_ledAt 80 = .ok (.getfield 44, 3) := by decide +kernel
theorem dX10_ledAt_83 : decode cX10_ledAt 83 = .ok (.iconst 4, 1) := by decide +kernel
theorem dX10_ledAt_84 : decode cX10_ledAt 84 = .ok (.iload_n 2, 1) := by decide +kernel
theorem dX10_ledAt_85 : decode cX10_ledAt 85 = .ok (.imul, 1) := by decide +kernel
theorem dX10_ledAt_86 : decode cX10_ledAt 86 = .ok (.iload_n 3, 1) := by decide +kernel
theorem dX10_ledAt_87 : decode cX10_ledAt 87 = .ok (.iadd, 1) := by decide +kernel
theorem dX10_ledAt_88 : decode cX10_ledAt 88 = .ok (.iaload, 1) := by decide +kernel
theorem dX10_ledAt_89 : decode cX10_ledAt 89 = .ok (.ireturn, 1) := by decide +kernel
set_option maxHeartbeats 4000000 in
set_option maxRecDepth 100000 in
theorem f_X10_ledAt (l : Launch) (dC : Nat → ClassId) (dI : Nat → Nat → Nat) (h : Nat → Nat) (cs : Nat → ClassId) (sz : Nat) (I : Nat → Int32) (L : Nat → Int64) (A : Nat → Nat → Int32) (Q : Nat → Nat → Int64) (x y z : Int32) : Met l yX10_ledAt wsX10_ledAt ({ frames := 3, cells := 0, slots := 0, locals := 70 }) (va_Pc [.ref (h 0), .int x, .int y, .int z] (xPre (dC, dI) (rW h cs gI gL gA gQ) (tysA cs) sz)) (va_Qi (fun (r : Int32) (u : RS) => ∃ za9 : Nat → Nat → Int32, (r = an_ledAt x y z) ∧ u = (gI, gL, za9, gQ)) (xB (dC, dI) (tysA cs) (va_A (rW h cs gI gL gA gQ) sz) (fun u : RS => rW h cs u.1 u.2.1 u.2.2.1 u.2.2.2)) (va_A (rW h cs gI gL gA gQ) sz)) 0 0 (va_A (rW h cs gI gL gA gQ) sz) := by
  refine Met.ofW (cc := cX10_ledAt) (maxL := 6) (ret := (some .int)) (by decide) rfl ?_
  intro p e s m args below meth c s₁ B hml hv
  obtain ⟨rfl, hsz, hP, hK, hD0, hN⟩ := hv
  have hx := B.exec
  have hb := B.bytes
  have hr := B.returns
  have hts := atoms_spec (ws := wsX10_ledAt) B.pre
  have hown : s.vm.findClass RX10 = some m.cls := findClass_of_methodNamed B.named
  have hlocks := B.notSynchronized
  subst hsz
  have hD := hD0.self (sz := s.heap.size)
  generalize hAe : va_A (rW h cs gI gL gA gQ) s.heap.size = A0 at hD ⊢
  have hA : ∀ q : Nat, s.heap.size ≤ q → A0 q := fun q h => by rw [← hAe]; exact Or.inr h
  have hl := lv_entry ([.ref (h 0), .int x, .int y, .int z]) (n := 6) (Nat.le_of_ble_eq_true rfl)
  rw [lg_entry_eq]
  generalize (lg_sl ([.ref (h 0), .int x, .int y, .int z]) ++ List.replicate (6 - (lg_sl ([.ref (h 0), .int x, .int y, .int z])).length) Slot.unset).toArray = ls at hl ⊢
  have hl : lv_has ls 6 [(0, .ref (h 0)), (1, .int x), (2, .int y), (3, .int z)] := hl
  generalize hH : s.heap = H at hP ⊢
  have hS : va_S A0 s.heap H [] := by rw [← hH]; exact va_S.rf
  have hinX10 : ∀ w ∈ wsX100, w ∈ wsX10_ledAt := by decide +kernel
  rcases splR x 0 1 (by decide) with ⟨i_x, h_x, g_x, rfl⟩ | hz_x
  · skip
    rcases (show i_x = 0 ∨ i_x = 1 by omega) with rfl | rfl
    · skip
      rcases splR z 0 1 (by decide) with ⟨i_z, h_z, g_z, rfl⟩ | hz_z
      · skip
        rcases (show i_z = 0 ∨ i_z = 1 by omega) with rfl | rfl
        · skip
          rcases splR y 0 1 (by decide) with ⟨i_y, h_y, g_y, rfl⟩ | hz_y
          · skip
            rcases (show i_y = 0 ∨ i_y = 1 by omega) with rfl | rfl
            · skip
              refine lv_iload_n hx hb dX10_ledAt_0 rfl (lv_at hl 1 rfl) ?_
              refine lv_i2l (v := (0 : Int64)) hx hb dX10_ledAt_1 (by decide +kernel) ?_
              refine lv_lconst (v := 0) hx hb dX10_ledAt_2 rfl ?_
              refine lv_lconst (v := 1) hx hb dX10_ledAt_3 rfl ?_
              refine xj_i (wc := ([] : va_W)) (wr := (rW h cs gI gL gA gQ)) hP hD hS hA [] [0, 1, 2, 3, 4, 5, 6, 7, 8, 9, 10, 11, 12, 13, 14, 15, 16] rfl rfl (by decide) (by decide) (va_runS (As := [.long (0 : Int64), .long (0 : Int64), .long (1 : Int64)]) (rest := []) ⟨hx, hb, hml, hown, hts⟩ (a_X10_in_201 l dC dI h cs H.size I L A Q ) (va_cwS 3 hts gX10_ledAt_X10_in rfl rfl rfl (by decide +kernel) ⟨Nat.le_of_ble_eq_true rfl, Nat.le_of_ble_eq_true rfl⟩) (xpS (wc := ([] : va_W)) hP hD hK hN [] rfl (by decide) _) rfl rfl hl.1 rfl (lv_room (Nat.le_of_ble_eq_true rfl)) dX10_ledAt_4 ⟨Nat.zero_le _, Nat.zero_le _⟩) (fun r_2 u_1 H locs hw hP hD hS => ?_)
              obtain ⟨hf_3, rfl⟩ := hw
              have hP : va_P (dC, dI) vwCl (rW h cs gI gL gA gQ) H := hP
              have hD : va_D A0 (rW h cs gI gL gA gQ) := hD
              obtain rfl := hf_3
              refine lv_if_eq (tgt := 45) hx hb dX10_ledAt_7 (by decide) (fun c9 => False.elim (by revert c9; decide +kernel)) (fun _ => ?_)
              refine lv_aload_n hx hb dX10_ledAt_10 rfl (lv_at hl 0 rfl) ?_
              refine lv_iload_n hx hb dX10_ledAt_11 rfl (lv_at hl 3 rfl) ?_
              refine xj_i (wc := (wD_177 h cs gI gL gA gQ)) (wr := ([] : va_W)) hP hD hS hA [0, 1, 2, 3, 4, 5, 6, 7, 8, 9, 10, 11, 12, 13, 14, 15, 16] [] rfl rfl (by decide) (by decide) (va_runV (As := [.int (nI 0)]) (rest := []) ⟨hx, hb, hml, hown, hts⟩ (a_X10_isColumn_200 l dC dI h cs H.size gI gL gA gQ ) (cwV 1 hts gX10_ledAt_X10_isColumn rfl rfl rfl (by decide +kernel) ⟨Nat.le_of_ble_eq_true rfl, Nat.le_of_ble_eq_true rfl⟩) (xpV (wc := (wD_177 h cs gI gL gA gQ)) hP hD hK hN [0, 1, 2, 3, 4, 5, 6, 7, 8, 9, 10, 11, 12, 13, 14, 15, 16] rfl (by decide) 0 (ci := 10) rfl rfl _) rfl rfl hl.1 rfl (lv_room (Nat.le_of_ble_eq_true rfl)) dX10_ledAt_12 ⟨Nat.zero_le _, Nat.zero_le _⟩) (fun r_5 u_4 H locs hw hP hD hS => ?_)
              obtain ⟨hf_6, rfl⟩ := hw
              have hP : va_P (dC, dI) vwCl (rW h cs gI gL gA gQ) H := hP
              have hD : va_D A0 (rW h cs gI gL gA gQ) := hD
              obtain rfl := hf_6
              refine lv_if_eq (tgt := 45) hx hb dX10_ledAt_15 (by decide) (fun c9 => False.elim (by revert c9; decide +kernel)) (fun _ => ?_)
              refine lv_iload_n hx hb dX10_ledAt_18 rfl (lv_at hl 1 rfl) ?_
              refine lv_if_ne (tgt := 33) hx hb dX10_ledAt_19 (by decide) (fun c9 => False.elim (by revert c9; decide +kernel)) (fun _ => ?_)
              refine lv_aload_n hx hb dX10_ledAt_22 rfl (lv_at hl 0 rfl) ?_
              refine lv_iload_n hx hb dX10_ledAt_23 rfl (lv_at hl 2 rfl) ?_
              refine xj_i (wc := (wD_177 h cs gI gL gA gQ)) (wr := ([] : va_W)) hP hD hS hA [0, 1, 2, 3, 4, 5, 6, 7, 8, 9, 10, 11, 12, 13, 14, 15, 16] [] rfl rfl (by decide) (by decide) (va_runV (As := [.int (nI 0)]) (rest := []) ⟨hx, hb, hml, hown, hts⟩ (a_X10_isRow_228 l dC dI h cs H.size gI gL gA gQ ) (cwV 1 hts gX10_ledAt_X10_isRow rfl rfl rfl (by decide +kernel) ⟨Nat.le_of_ble_eq_true rfl, Nat.le_of_ble_eq_true rfl⟩) (xpV (wc := (wD_177 h cs gI gL gA gQ)) hP hD hK hN [0, 1, 2, 3, 4, 5, 6, 7, 8, 9, 10, 11, 12, 13, 14, 15, 16] rfl (by decide) 0 (ci := 10) rfl rfl _) rfl rfl hl.1 rfl (lv_room (Nat.le_of_ble_eq_true rfl)) dX10_ledAt_24 ⟨Nat.zero_le _, Nat.zero_le _⟩) (fun r_8 u_7 H locs hw hP hD hS => ?_)
              obtain ⟨hf_9, rfl⟩ := hw
              have hP : va_P (dC, dI) vwCl (rW h cs gI gL gA gQ) H := hP
              have hD : va_D A0 (rW h cs gI gL gA gQ) := hD
              obtain rfl := hf_9
              refine lv_if_eq (tgt := 45) hx hb dX10_ledAt_27 (by decide) (fun c9 => False.elim (by revert c9; decide +kernel)) (fun _ => ?_)
              refine lv_goto (tgt := 41) hx hb dX10_ledAt_30 (by decide) ?_
              refine lv_iconst (v := nI 1) hx hb dX10_ledAt_41 (by decide) ?_
              refine lv_goto (tgt := 46) hx hb dX10_ledAt_42 (by decide) ?_
              refine lv_istore (lv' := [(4, .int (nI 1)), (0, .ref (h 0)), (1, .int (nI 0)), (2, .int (nI 0)), (3, .int (nI 0))]) hx hb dX10_ledAt_46 hl (by decide) rfl (fun ls hl => ?_)
              refine lv_iload hx hb dX10_ledAt_48 (lv_at hl 0 rfl) ?_
              refine lv_if_ne (tgt := 56) hx hb dX10_ledAt_50 (by decide) (fun _ => ?_) (fun c9 => False.elim (by revert c9; decide +kernel))
              refine lv_aload_n hx hb dX10_ledAt_56 rfl (lv_at hl 1 rfl) ?_
              refine xj_i (wc := (wD_177 h cs gI gL gA gQ)) (wr := ([] : va_W)) hP hD hS hA [0, 1, 2, 3, 4, 5, 6, 7, 8, 9, 10, 11, 12, 13, 14, 15, 16] [] rfl rfl (by decide) (by decide) (va_runV (As := []) (rest := []) ⟨hx, hb, hml, hown, hts⟩ (a_X10_lead_229 l dC dI h cs H.size gI gL gA gQ ) (cwV 0 hts gX10_ledAt_X10_lead rfl rfl rfl (by decide +kernel) ⟨Nat.le_of_ble_eq_true rfl, Nat.le_of_ble_eq_true rfl⟩) (xpV (wc := (wD_177 h cs gI gL gA gQ)) hP hD hK hN [0, 1, 2, 3, 4, 5, 6, 7, 8, 9, 10, 11, 12, 13, 14, 15, 16] rfl (by decide) 0 (ci := 10) rfl rfl _) rfl rfl hl.1 rfl (lv_room (Nat.le_of_ble_eq_true rfl)) dX10_ledAt_57 ⟨Nat.zero_le _, Nat.zero_le _⟩) (fun r_11 u_10 H locs hw hP hD hS => ?_)
              obtain ⟨hf_12, rfl⟩ := hw
              have hP : va_P (dC, dI) vwCl (rW h cs gI gL qA_210 gQ) H := hP
              have hD : va_D A0 (rW h cs gI gL qA_210 gQ) := hD
              obtain rfl := hf_12
              refine lv_istore (lv' := [(5, .int (nI 0)), (4, .int (nI 1)), (0, .ref (h 0)), (1, .int (nI 0)), (2, .int (nI 0)), (3, .int (nI 0))]) hx hb dX10_ledAt_60 hl (by decide) rfl (fun ls hl => ?_)
              refine lv_iload_n hx hb dX10_ledAt_62 rfl (lv_at hl 3 rfl) ?_
              refine lv_if_ne (tgt := 79) hx hb dX10_ledAt_63 (by decide) (fun c9 => False.elim (by revert c9; decide +kernel)) (fun _ => ?_)
              refine lv_aload_n hx hb dX10_ledAt_66 rfl (lv_at hl 2 rfl) ?_
              refine va_get (D := (dC, dI)) (ci := 10) (v := .ref (h 17)) (C := RX10) (T := TX10) (N := 28) hx hb hts hinX10 hown hK hP 0 rfl rfl 17 (by decide) (hts (.fieldLink RX10 41 "MixedWordsModel" "cols" "[I") (by decide +kernel)) (fun _ h9 => h9) rfl dX10_ledAt_67 ?_
              refine lv_iconst (v := nI 5) hx hb dX10_ledAt_70 (by decide) ?_
              refine lv_iload_n hx hb dX10_ledAt_71 rfl (lv_at hl 5 rfl) ?_
              refine lv_imul hx hb dX10_ledAt_72 ?_
              refine xt_i (y := nI 0) (by decide +kernel) ?_
              refine lv_iload_n hx hb dX10_ledAt_73 rfl (lv_at hl 4 rfl) ?_
              refine lv_iadd hx hb dX10_ledAt_74 ?_
              refine xt_i (y := nI 0) (by decide +kernel) ?_
              refine xa_iald hx hb hK hP 8 0 rfl rfl (by omega) (by decide) dX10_ledAt_75 ?_
              refine xt_i (y := nI 0) (by decide +kernel) ?_
              refine lv_goto (tgt := 89) hx hb dX10_ledAt_76 (by decide) ?_
              exact xr_i (v := (nI 0)) hx hb hr hlocks hK hS dX10_ledAt_89 (gI, gL, qA_210, gQ) ⟨qA_210, (by decide +kernel), rfl⟩ hP hD
            · skip
              refine lv_iload_n hx hb dX10_ledAt_0 rfl (lv_at hl 1 rfl) ?_
              refine lv_i2l (v := (0 : Int64)) hx hb dX10_ledAt_1 (by decide +kernel) ?_
              refine lv_lconst (v := 0) hx hb dX10_ledAt_2 rfl ?_
              refine lv_lconst (v := 1) hx hb dX10_ledAt_3 rfl ?_
              refine xj_i (wc := ([] : va_W)) (wr := (rW h cs gI gL gA gQ)) hP hD hS hA [] [0, 1, 2, 3, 4, 5, 6, 7, 8, 9, 10, 11, 12, 13, 14, 15, 16] rfl rfl (by decide) (by decide) (va_runS (As := [.long (0 : Int64), .long (0 : Int64), .long (1 : Int64)]) (rest := []) ⟨hx, hb, hml, hown, hts⟩ (a_X10_in_201 l dC dI h cs H.size I L A Q ) (va_cwS 3 hts gX10_ledAt_X10_in rfl rfl rfl (by decide +kernel) ⟨Nat.le_of_ble_eq_true rfl, Nat.le_of_ble_eq_true rfl⟩) (xpS (wc := ([] : va_W)) hP hD hK hN [] rfl (by decide) _) rfl rfl hl.1 rfl (lv_room (Nat.le_of_ble_eq_true rfl)) dX10_ledAt_4 ⟨Nat.zero_le _, Nat.zero_le _⟩) (fun r_14 u_13 H locs hw hP hD hS => ?_)
              obtain ⟨hf_15, rfl⟩ := hw
              have hP : va_P (dC, dI) vwCl (rW h cs gI gL gA gQ) H := hP
              have hD : va_D A0 (rW h cs gI gL gA gQ) := hD
              obtain rfl := hf_15
              refine lv_if_eq (tgt := 45) hx hb dX10_ledAt_7 (by decide) (fun c9 => False.elim (by revert c9; decide +kernel)) (fun _ => ?_)
              refine lv_aload_n hx hb dX10_ledAt_10 rfl (lv_at hl 0 rfl) ?_
              refine lv_iload_n hx hb dX10_ledAt_11 rfl (lv_at hl 3 rfl) ?_
              refine xj_i (wc := (wD_177 h cs gI gL gA gQ)) (wr := ([] : va_W)) hP hD hS hA [0, 1, 2, 3, 4, 5, 6, 7, 8, 9, 10, 11, 12, 13, 14, 15, 16] [] rfl rfl (by decide) (by decide) (va_runV (As := [.int (nI 0)]) (rest := []) ⟨hx, hb, hml, hown, hts⟩ (a_X10_isColumn_200 l dC dI h cs H.size gI gL gA gQ ) (cwV 1 hts gX10_ledAt_X10_isColumn rfl rfl rfl (by decide +kernel) ⟨Nat.le_of_ble_eq_true rfl, Nat.le_of_ble_eq_true rfl⟩) (xpV (wc := (wD_177 h cs gI gL gA gQ)) hP hD hK hN [0, 1, 2, 3, 4, 5, 6, 7, 8, 9, 10, 11, 12, 13, 14, 15, 16] rfl (by decide) 0 (ci := 10) rfl rfl _) rfl rfl hl.1 rfl (lv_room (Nat.le_of_ble_eq_true rfl)) dX10_ledAt_12 ⟨Nat.zero_le _, Nat.zero_le _⟩) (fun r_17 u_16 H locs hw hP hD hS => ?_)
              obtain ⟨hf_18, rfl⟩ := hw
              have hP : va_P (dC, dI) vwCl (rW h cs gI gL gA gQ) H := hP
              have hD : va_D A0 (rW h cs gI gL gA gQ) := hD
              obtain rfl := hf_18
              refine lv_if_eq (tgt := 45) hx hb dX10_ledAt_15 (by decide) (fun c9 => False.elim (by revert c9; decide +kernel)) (fun _ => ?_)
              refine lv_iload_n hx hb dX10_ledAt_18 rfl (lv_at hl 1 rfl) ?_
              refine lv_if_ne (tgt := 33) hx hb dX10_ledAt_19 (by decide) (fun c9 => False.elim (by revert c9; decide +kernel)) (fun _ => ?_)
              refine lv_aload_n hx hb dX10_ledAt_22 rfl (lv_at hl 0 rfl) ?_
              refine lv_iload_n hx hb dX10_ledAt_23 rfl (lv_at hl 2 rfl) ?_
              refine xj_i (wc := (wD_177 h cs gI gL gA gQ)) (wr := ([] : va_W)) hP hD hS hA [0, 1, 2, 3, 4, 5, 6, 7, 8, 9, 10, 11, 12, 13, 14, 15, 16] [] rfl rfl (by decide) (by decide) (va_runV (As := [.int (nI 1)]) (rest := []) ⟨hx, hb, hml, hown, hts⟩ (a_X10_isRow_231 l dC dI h cs H.size gI gL gA gQ ) (cwV 1 hts gX10_ledAt_X10_isRow rfl rfl rfl (by decide +kernel) ⟨Nat.le_of_ble_eq_true rfl, Nat.le_of_ble_eq_true rfl⟩) (xpV (wc := (wD_177 h cs gI gL gA gQ)) hP hD hK hN [0, 1, 2, 3, 4, 5, 6, 7, 8, 9, 10, 11, 12, 13, 14, 15, 16] rfl (by decide) 0 (ci := 10) rfl rfl _) rfl rfl hl.1 rfl (lv_room (Nat.le_of_ble_eq_true rfl)) dX10_ledAt_24 ⟨Nat.zero_le _, Nat.zero_le _⟩) (fun r_20 u_19 H locs hw hP hD hS => ?_)
              obtain ⟨hf_21, rfl⟩ := hw
              have hP : va_P (dC, dI) vwCl (rW h cs gI gL gA gQ) H := hP
              have hD : va_D A0 (rW h cs gI gL gA gQ) := hD
              obtain rfl := hf_21
              refine lv_if_eq (tgt := 45) hx hb dX10_ledAt_27 (by decide) (fun c9 => False.elim (by revert c9; decide +kernel)) (fun _ => ?_)
              refine lv_goto (tgt := 41) hx hb dX10_ledAt_30 (by decide) ?_
              refine lv_iconst (v := nI 1) hx hb dX10_ledAt_41 (by decide) ?_
              refine lv_goto (tgt := 46) hx hb dX10_ledAt_42 (by decide) ?_
              refine lv_istore (lv' := [(4, .int (nI 1)), (0, .ref (h 0)), (1, .int (nI 0)), (2, .int (nI 1)), (3, .int (nI 0))]) hx hb dX10_ledAt_46 hl (by decide) rfl (fun ls hl => ?_)
              refine lv_iload hx hb dX10_ledAt_48 (lv_at hl 0 rfl) ?_
              refine lv_if_ne (tgt := 56) hx hb dX10_ledAt_50 (by decide) (fun _ => ?_) (fun c9 => False.elim (by revert c9; decide +kernel))
              refine lv_aload_n hx hb dX10_ledAt_56 rfl (lv_at hl 1 rfl) ?_
              refine xj_i (wc := (wD_177 h cs gI gL gA gQ)) (wr := ([] : va_W)) hP hD hS hA [0, 1, 2, 3, 4, 5, 6, 7, 8, 9, 10, 11, 12, 13, 14, 15, 16] [] rfl rfl (by decide) (by decide) (va_runV (As := []) (rest := []) ⟨hx, hb, hml, hown, hts⟩ (a_X10_lead_229 l dC dI h cs H.size gI gL gA gQ ) (cwV 0 hts gX10_ledAt_X10_lead rfl rfl rfl (by decide +kernel) ⟨Nat.le_of_ble_eq_true rfl, Nat.le_of_ble_eq_true rfl⟩) (xpV (wc := (wD_177 h cs gI gL gA gQ)) hP hD hK hN [0, 1, 2, 3, 4, 5, 6, 7, 8, 9, 10, 11, 12, 13, 14, 15, 16] rfl (by decide) 0 (ci := 10) rfl rfl _) rfl rfl hl.1 rfl (lv_room (Nat.le_of_ble_eq_true rfl)) dX10_ledAt_57 ⟨Nat.zero_le _, Nat.zero_le _⟩) (fun r_23 u_22 H locs hw hP hD hS => ?_)
              obtain ⟨hf_24, rfl⟩ := hw
              have hP : va_P (dC, dI) vwCl (rW h cs gI gL qA_210 gQ) H := hP
              have hD : va_D A0 (rW h cs gI gL qA_210 gQ) := hD
              obtain rfl := hf_24
              refine lv_istore (lv' := [(5, .int (nI 0)), (4, .int (nI 1)), (0, .ref (h 0)), (1, .int (nI 0)), (2, .int (nI 1)), (3, .int (nI 0))]) hx hb dX10_ledAt_60 hl (by decide) rfl (fun ls hl => ?_)
              refine lv_iload_n hx hb dX10_ledAt_62 rfl (lv_at hl 3 rfl) ?_
              refine lv_if_ne (tgt := 79) hx hb dX10_ledAt_63 (by decide) (fun c9 => False.elim (by revert c9; decide +kernel)) (fun _ => ?_)
              refine lv_aload_n hx hb dX10_ledAt_66 rfl (lv_at hl 2 rfl) ?_
              refine va_get (D := (dC, dI)) (ci := 10) (v := .ref (h 17)) (C := RX10) (T := TX10) (N := 28) hx hb hts hinX10 hown hK hP 0 rfl rfl 17 (by decide) (hts (.fieldLink RX10 41 "MixedWordsModel" "cols" "[I") (by decide +kernel)) (fun _ h9 => h9) rfl dX10_ledAt_67 ?_
              refine lv_iconst (v := nI 5) hx hb dX10_ledAt_70 (by decide) ?_
              refine lv_iload_n hx hb dX10_ledAt_71 rfl (lv_at hl 5 rfl) ?_
              refine lv_imul hx hb dX10_ledAt_72 ?_
              refine xt_i (y := nI 0) (by decide +kernel) ?_
              refine lv_iload_n hx hb dX10_ledAt_73 rfl (lv_at hl 4 rfl) ?_
              refine lv_iadd hx hb dX10_ledAt_74 ?_
              refine xt_i (y := nI 1) (by decide +kernel) ?_
              refine xa_iald hx hb hK hP 8 0 rfl rfl (by omega) (by decide) dX10_ledAt_75 ?_
              refine xt_i (y := nI 0) (by decide +kernel) ?_
              refine lv_goto (tgt := 89) hx hb dX10_ledAt_76 (by decide) ?_
              exact xr_i (v := (nI 0)) hx hb hr hlocks hK hS dX10_ledAt_89 (gI, gL, qA_210, gQ) ⟨qA_210, (by decide +kernel), rfl⟩ hP hD
          · skip
            refine lv_iload_n hx hb dX10_ledAt_0 rfl (lv_at hl 1 rfl) ?_
            refine lv_i2l (v := (0 : Int64)) hx hb dX10_ledAt_1 (by decide +kernel) ?_
            refine lv_lconst (v := 0) hx hb dX10_ledAt_2 rfl ?_
            refine lv_lconst (v := 1) hx hb dX10_ledAt_3 rfl ?_
            refine xj_i (wc := ([] : va_W)) (wr := (rW h cs gI gL gA gQ)) hP hD hS hA [] [0, 1, 2, 3, 4, 5, 6, 7, 8, 9, 10, 11, 12, 13, 14, 15, 16] rfl rfl (by decide) (by decide) (va_runS (As := [.long (0 : Int64), .long (0 : Int64), .long (1 : Int64)]) (rest := []) ⟨hx, hb, hml, hown, hts⟩ (a_X10_in_201 l dC dI h cs H.size I L A Q ) (va_cwS 3 hts gX10_ledAt_X10_in rfl rfl rfl (by decide +kernel) ⟨Nat.le_of_ble_eq_true rfl, Nat.le_of_ble_eq_true rfl⟩) (xpS (wc := ([] : va_W)) hP hD hK hN [] rfl (by decide) _) rfl rfl hl.1 rfl (lv_room (Nat.le_of_ble_eq_true rfl)) dX10_ledAt_4 ⟨Nat.zero_le _, Nat.zero_le _⟩) (fun r_26 u_25 H locs hw hP hD hS => ?_)
            obtain ⟨hf_27, rfl⟩ := hw
            have hP : va_P (dC, dI) vwCl (rW h cs gI gL gA gQ) H := hP
            have hD : va_D A0 (rW h cs gI gL gA gQ) := hD
            obtain rfl := hf_27
            refine lv_if_eq (tgt := 45) hx hb dX10_ledAt_7 (by decide) (fun c9 => False.elim (by revert c9; decide +kernel)) (fun _ => ?_)
            refine lv_aload_n hx hb dX10_ledAt_10 rfl (lv_at hl 0 rfl) ?_
            refine lv_iload_n hx hb dX10_ledAt_11 rfl (lv_at hl 3 rfl) ?_
            refine xj_i (wc := (wD_177 h cs gI gL gA gQ)) (wr := ([] : va_W)) hP hD hS hA [0, 1, 2, 3, 4, 5, 6, 7, 8, 9, 10, 11, 12, 13, 14, 15, 16] [] rfl rfl (by decide) (by decide) (va_runV (As := [.int (nI 0)]) (rest := []) ⟨hx, hb, hml, hown, hts⟩ (a_X10_isColumn_200 l dC dI h cs H.size gI gL gA gQ ) (cwV 1 hts gX10_ledAt_X10_isColumn rfl rfl rfl (by decide +kernel) ⟨Nat.le_of_ble_eq_true rfl, Nat.le_of_ble_eq_true rfl⟩) (xpV (wc := (wD_177 h cs gI gL gA gQ)) hP hD hK hN [0, 1, 2, 3, 4, 5, 6, 7, 8, 9, 10, 11, 12, 13, 14, 15, 16] rfl (by decide) 0 (ci := 10) rfl rfl _) rfl rfl hl.1 rfl (lv_room (Nat.le_of_ble_eq_true rfl)) dX10_ledAt_12 ⟨Nat.zero_le _, Nat.zero_le _⟩) (fun r_29 u_28 H locs hw hP hD hS => ?_)
            obtain ⟨hf_30, rfl⟩ := hw
            have hP : va_P (dC, dI) vwCl (rW h cs gI gL gA gQ) H := hP
            have hD : va_D A0 (rW h cs gI gL gA gQ) := hD
            obtain rfl := hf_30
            refine lv_if_eq (tgt := 45) hx hb dX10_ledAt_15 (by decide) (fun c9 => False.elim (by revert c9; decide +kernel)) (fun _ => ?_)
            refine lv_iload_n hx hb dX10_ledAt_18 rfl (lv_at hl 1 rfl) ?_
            refine lv_if_ne (tgt := 33) hx hb dX10_ledAt_19 (by decide) (fun c9 => False.elim (by revert c9; decide +kernel)) (fun _ => ?_)
            refine lv_aload_n hx hb dX10_ledAt_22 rfl (lv_at hl 0 rfl) ?_
            refine lv_iload_n hx hb dX10_ledAt_23 rfl (lv_at hl 2 rfl) ?_
            refine xj_i (wc := (rW h cs gI gL gA gQ)) (wr := ([] : va_W)) hP hD hS hA [0, 1, 2, 3, 4, 5, 6, 7, 8, 9, 10, 11, 12, 13, 14, 15, 16] [] rfl rfl (by decide) (by decide) (va_runV (As := [.int y]) (rest := []) ⟨hx, hb, hml, hown, hts⟩ (k_X10_isRow l dC dI h cs H.size gI gL gA gQ y 2 (by decide +kernel) (by first | assumption | omega) (by first | assumption | omega)) (cwV 1 hts gX10_ledAt_X10_isRow rfl rfl rfl (by decide +kernel) ⟨Nat.le_of_ble_eq_true rfl, Nat.le_of_ble_eq_true rfl⟩) (xpV (wc := (rW h cs gI gL gA gQ)) hP hD hK hN [0, 1, 2, 3, 4, 5, 6, 7, 8, 9, 10, 11, 12, 13, 14, 15, 16] rfl (by decide) 0 (ci := 10) rfl rfl _) rfl rfl hl.1 rfl (lv_room (Nat.le_of_ble_eq_true rfl)) dX10_ledAt_24 ⟨Nat.zero_le _, Nat.zero_le _⟩) (fun r_32 u_31 H locs hw hP hD hS => ?_)
            obtain ⟨hf_33, rfl⟩ := hw
            have hP : va_P (dC, dI) vwCl (rW h cs gI gL gA gQ) H := hP
            have hD : va_D A0 (rW h cs gI gL gA gQ) := hD
            rcases hf_33 with ⟨rfl, i_34, hh_35, ee_36⟩ | ⟨rfl, -⟩
            · skip
              exact absurd (by rw [ee_36, nI_toInt (by omega)]; omega) hz_y
            · skip
              refine lv_if_eq (tgt := 45) hx hb dX10_ledAt_27 (by decide) (fun _ => ?_) (fun c9 => False.elim (by revert c9; decide +kernel))
              refine lv_iconst (v := nI 0) hx hb dX10_ledAt_45 (by decide) ?_
              refine lv_istore (lv' := [(4, .int (nI 0)), (0, .ref (h 0)), (1, .int (nI 0)), (2, .int y), (3, .int (nI 0))]) hx hb dX10_ledAt_46 hl (by decide) rfl (fun ls hl => ?_)
              refine lv_iload hx hb dX10_ledAt_48 (lv_at hl 0 rfl) ?_
              refine lv_if_ne (tgt := 56) hx hb dX10_ledAt_50 (by decide) (fun c9 => False.elim (by revert c9; decide +kernel)) (fun _ => ?_)
              refine lv_ldc (v := (-1000001)) hx hb hown (hts (.constant RX10 232 (-1000001)) (by decide +kernel)) dX10_ledAt_53 ?_
              exact xr_i (v := (-1000001 : Int32)) hx hb hr hlocks hK hS dX10_ledAt_55 (gI, gL, gA, gQ) ⟨gA, (by unfold an_ledAt; rw [if_neg (by omega)]), rfl⟩ hP hD
        · skip
          rcases splR y 0 1 (by decide) with ⟨i_y, h_y, g_y, rfl⟩ | hz_y
          · skip
            rcases (show i_y = 0 ∨ i_y = 1 by omega) with rfl | rfl
            · skip
              refine lv_iload_n hx hb dX10_ledAt_0 rfl (lv_at hl 1 rfl) ?_
              refine lv_i2l (v := (0 : Int64)) hx hb dX10_ledAt_1 (by decide +kernel) ?_
              refine lv_lconst (v := 0) hx hb dX10_ledAt_2 rfl ?_
              refine lv_lconst (v := 1) hx hb dX10_ledAt_3 rfl ?_
              refine xj_i (wc := ([] : va_W)) (wr := (rW h cs gI gL gA gQ)) hP hD hS hA [] [0, 1, 2, 3, 4, 5, 6, 7, 8, 9, 10, 11, 12, 13, 14, 15, 16] rfl rfl (by decide) (by decide) (va_runS (As := [.long (0 : Int64), .long (0 : Int64), .long (1 : Int64)]) (rest := []) ⟨hx, hb, hml, hown, hts⟩ (a_X10_in_201 l dC dI h cs H.size I L A Q ) (va_cwS 3 hts gX10_ledAt_X10_in rfl rfl rfl (by decide +kernel) ⟨Nat.le_of_ble_eq_true rfl, Nat.le_of_ble_eq_true rfl⟩) (xpS (wc := ([] : va_W)) hP hD hK hN [] rfl (by decide) _) rfl rfl hl.1 rfl (lv_room (Nat.le_of_ble_eq_true rfl)) dX10_ledAt_4 ⟨Nat.zero_le _, Nat.zero_le _⟩) (fun r_38 u_37 H locs hw hP hD hS => ?_)
              obtain ⟨hf_39, rfl⟩ := hw
              have hP : va_P (dC, dI) vwCl (rW h cs gI gL gA gQ) H := hP
              have hD : va_D A0 (rW h cs gI gL gA gQ) := hD
              obtain rfl := hf_39
              refine lv_if_eq (tgt := 45) hx hb dX10_ledAt_7 (by decide) (fun c9 => False.elim (by revert c9; decide +kernel)) (fun _ => ?_)
              refine lv_aload_n hx hb dX10_ledAt_10 rfl (lv_at hl 0 rfl) ?_
              refine lv_iload_n hx hb dX10_ledAt_11 rfl (lv_at hl 3 rfl) ?_
              refine xj_i (wc := (wD_177 h cs gI gL gA gQ)) (wr := ([] : va_W)) hP hD hS hA [0, 1, 2, 3, 4, 5, 6, 7, 8, 9, 10, 11, 12, 13, 14, 15, 16] [] rfl rfl (by decide) (by decide) (va_runV (As := [.int (nI 1)]) (rest := []) ⟨hx, hb, hml, hown, hts⟩ (a_X10_isColumn_205 l dC dI h cs H.size gI gL gA gQ ) (cwV 1 hts gX10_ledAt_X10_isColumn rfl rfl rfl (by decide +kernel) ⟨Nat.le_of_ble_eq_true rfl, Nat.le_of_ble_eq_true rfl⟩) (xpV (wc := (wD_177 h cs gI gL gA gQ)) hP hD hK hN [0, 1, 2, 3, 4, 5, 6, 7, 8, 9, 10, 11, 12, 13, 14, 15, 16] rfl (by decide) 0 (ci := 10) rfl rfl _) rfl rfl hl.1 rfl (lv_room (Nat.le_of_ble_eq_true rfl)) dX10_ledAt_12 ⟨Nat.zero_le _, Nat.zero_le _⟩) (fun r_41 u_40 H locs hw hP hD hS => ?_)
              obtain ⟨hf_42, rfl⟩ := hw
              have hP : va_P (dC, dI) vwCl (rW h cs gI gL gA gQ) H := hP
              have hD : va_D A0 (rW h cs gI gL gA gQ) := hD
              obtain rfl := hf_42
              refine lv_if_eq (tgt := 45) hx hb dX10_ledAt_15 (by decide) (fun c9 => False.elim (by revert c9; decide +kernel)) (fun _ => ?_)
              refine lv_iload_n hx hb dX10_ledAt_18 rfl (lv_at hl 1 rfl) ?_
              refine lv_if_ne (tgt := 33) hx hb dX10_ledAt_19 (by decide) (fun c9 => False.elim (by revert c9; decide +kernel)) (fun _ => ?_)
              refine lv_aload_n hx hb dX10_ledAt_22 rfl (lv_at hl 0 rfl) ?_
              refine lv_iload_n hx hb dX10_ledAt_23 rfl (lv_at hl 2 rfl) ?_
              refine xj_i (wc := (wD_177 h cs gI gL gA gQ)) (wr := ([] : va_W)) hP hD hS hA [0, 1, 2, 3, 4, 5, 6, 7, 8, 9, 10, 11, 12, 13, 14, 15, 16] [] rfl rfl (by decide) (by decide) (va_runV (As := [.int (nI 0)]) (rest := []) ⟨hx, hb, hml, hown, hts⟩ (a_X10_isRow_228 l dC dI h cs H.size gI gL gA gQ ) (cwV 1 hts gX10_ledAt_X10_isRow rfl rfl rfl (by decide +kernel) ⟨Nat.le_of_ble_eq_true rfl, Nat.le_of_ble_eq_true rfl⟩) (xpV (wc := (wD_177 h cs gI gL gA gQ)) hP hD hK hN [0, 1, 2, 3, 4, 5, 6, 7, 8, 9, 10, 11, 12, 13, 14, 15, 16] rfl (by decide) 0 (ci := 10) rfl rfl _) rfl rfl hl.1 rfl (lv_room (Nat.le_of_ble_eq_true rfl)) dX10_ledAt_24 ⟨Nat.zero_le _, Nat.zero_le _⟩) (fun r_44 u_43 H locs hw hP hD hS => ?_)
              obtain ⟨hf_45, rfl⟩ := hw
              have hP : va_P (dC, dI) vwCl (rW h cs gI gL gA gQ) H := hP
              have hD : va_D A0 (rW h cs gI gL gA gQ) := hD
              obtain rfl := hf_45
              refine lv_if_eq (tgt := 45) hx hb dX10_ledAt_27 (by decide) (fun c9 => False.elim (by revert c9; decide +kernel)) (fun _ => ?_)
              refine lv_goto (tgt := 41) hx hb dX10_ledAt_30 (by decide) ?_
              refine lv_iconst (v := nI 1) hx hb dX10_ledAt_41 (by decide) ?_
              refine lv_goto (tgt := 46) hx hb dX10_ledAt_42 (by decide) ?_
              refine lv_istore (lv' := [(4, .int (nI 1)), (0, .ref (h 0)), (1, .int (nI 0)), (2, .int (nI 0)), (3, .int (nI 1))]) hx hb dX10_ledAt_46 hl (by decide) rfl (fun ls hl => ?_)
              refine lv_iload hx hb dX10_ledAt_48 (lv_at hl 0 rfl) ?_
              refine lv_if_ne (tgt := 56) hx hb dX10_ledAt_50 (by decide) (fun _ => ?_) (fun c9 => False.elim (by revert c9; decide +kernel))
              refine lv_aload_n hx hb dX10_ledAt_56 rfl (lv_at hl 1 rfl) ?_
              refine xj_i (wc := (wD_177 h cs gI gL gA gQ)) (wr := ([] : va_W)) hP hD hS hA [0, 1, 2, 3, 4, 5, 6, 7, 8, 9, 10, 11, 12, 13, 14, 15, 16] [] rfl rfl (by decide) (by decide) (va_runV (As := []) (rest := []) ⟨hx, hb, hml, hown, hts⟩ (a_X10_lead_229 l dC dI h cs H.size gI gL gA gQ ) (cwV 0 hts gX10_ledAt_X10_lead rfl rfl rfl (by decide +kernel) ⟨Nat.le_of_ble_eq_true rfl, Nat.le_of_ble_eq_true rfl⟩) (xpV (wc := (wD_177 h cs gI gL gA gQ)) hP hD hK hN [0, 1, 2, 3, 4, 5, 6, 7, 8, 9, 10, 11, 12, 13, 14, 15, 16] rfl (by decide) 0 (ci := 10) rfl rfl _) rfl rfl hl.1 rfl (lv_room (Nat.le_of_ble_eq_true rfl)) dX10_ledAt_57 ⟨Nat.zero_le _, Nat.zero_le _⟩) (fun r_47 u_46 H locs hw hP hD hS => ?_)
              obtain ⟨hf_48, rfl⟩ := hw
              have hP : va_P (dC, dI) vwCl (rW h cs gI gL qA_210 gQ) H := hP
              have hD : va_D A0 (rW h cs gI gL qA_210 gQ) := hD
              obtain rfl := hf_48
              refine lv_istore (lv' := [(5, .int (nI 0)), (4, .int (nI 1)), (0, .ref (h 0)), (1, .int (nI 0)), (2, .int (nI 0)), (3, .int (nI 1))]) hx hb dX10_ledAt_60 hl (by decide) rfl (fun ls hl => ?_)
              refine lv_iload_n hx hb dX10_ledAt_62 rfl (lv_at hl 3 rfl) ?_
              refine lv_if_ne (tgt := 79) hx hb dX10_ledAt_63 (by decide) (fun c9 => False.elim (by revert c9; decide +kernel)) (fun _ => ?_)
              refine lv_aload_n hx hb dX10_ledAt_66 rfl (lv_at hl 2 rfl) ?_
              refine va_get (D := (dC, dI)) (ci := 10) (v := .ref (h 17)) (C := RX10) (T := TX10) (N := 28) hx hb hts hinX10 hown hK hP 0 rfl rfl 17 (by decide) (hts (.fieldLink RX10 41 "MixedWordsModel" "cols" "[I") (by decide +kernel)) (fun _ h9 => h9) rfl dX10_ledAt_67 ?_
              refine lv_iconst (v := nI 5) hx hb dX10_ledAt_70 (by decide) ?_
              refine lv_iload_n hx hb dX10_ledAt_71 rfl (lv_at hl 5 rfl) ?_
              refine lv_imul hx hb dX10_ledAt_72 ?_
              refine xt_i (y := nI 5) (by decide +kernel) ?_
              refine lv_iload_n hx hb dX10_ledAt_73 rfl (lv_at hl 4 rfl) ?_
              refine lv_iadd hx hb dX10_ledAt_74 ?_
              refine xt_i (y := nI 5) (by decide +kernel) ?_
              refine xa_iald hx hb hK hP 8 0 rfl rfl (by omega) (by decide) dX10_ledAt_75 ?_
              refine xt_i (y := nI 0) (by decide +kernel) ?_
              refine lv_goto (tgt := 89) hx hb dX10_ledAt_76 (by decide) ?_
              exact xr_i (v := (nI 0)) hx hb hr hlocks hK hS dX10_ledAt_89 (gI, gL, qA_210, gQ) ⟨qA_210, (by decide +kernel), rfl⟩ hP hD
            · skip
              refine lv_iload_n hx hb dX10_ledAt_0 rfl (lv_at hl 1 rfl) ?_
              refine lv_i2l (v := (0 : Int64)) hx hb dX10_ledAt_1 (by decide +kernel) ?_
              refine lv_lconst (v := 0) hx hb dX10_ledAt_2 rfl ?_
              refine lv_lconst (v := 1) hx hb dX10_ledAt_3 rfl ?_
              refine xj_i (wc := ([] : va_W)) (wr := (rW h cs gI gL gA gQ)) hP hD hS hA [] [0, 1, 2, 3, 4, 5, 6, 7, 8, 9, 10, 11, 12, 13, 14, 15, 16] rfl rfl (by decide) (by decide) (va_runS (As := [.long (0 : Int64), .long (0 : Int64), .long (1 : Int64)]) (rest := []) ⟨hx, hb, hml, hown, hts⟩ (a_X10_in_201 l dC dI h cs H.size I L A Q ) (va_cwS 3 hts gX10_ledAt_X10_in rfl rfl rfl (by decide +kernel) ⟨Nat.le_of_ble_eq_true rfl, Nat.le_of_ble_eq_true rfl⟩) (xpS (wc := ([] : va_W)) hP hD hK hN [] rfl (by decide) _) rfl rfl hl.1 rfl (lv_room (Nat.le_of_ble_eq_true rfl)) dX10_ledAt_4 ⟨Nat.zero_le _, Nat.zero_le _⟩) (fun r_50 u_49 H locs hw hP hD hS => ?_)
              obtain ⟨hf_51, rfl⟩ := hw
              have hP : va_P (dC, dI) vwCl (rW h cs gI gL gA gQ) H := hP
              have hD : va_D A0 (rW h cs gI gL gA gQ) := hD
              obtain rfl := hf_51
              refine lv_if_eq (tgt := 45) hx hb dX10_ledAt_7 (by decide) (fun c9 => False.elim (by revert c9; decide +kernel)) (fun _ => ?_)
              refine lv_aload_n hx hb dX10_ledAt_10 rfl (lv_at hl 0 rfl) ?_
              refine lv_iload_n hx hb dX10_ledAt_11 rfl (lv_at hl 3 rfl) ?_
              refine xj_i (wc := (wD_177 h cs gI gL gA gQ)) (wr := ([] : va_W)) hP hD hS hA [0, 1, 2, 3, 4, 5, 6, 7, 8, 9, 10, 11, 12, 13, 14, 15, 16] [] rfl rfl (by decide) (by decide) (va_runV (As := [.int (nI 1)]) (rest := []) ⟨hx, hb, hml, hown, hts⟩ (a_X10_isColumn_205 l dC dI h cs H.size gI gL gA gQ ) (cwV 1 hts gX10_ledAt_X10_isColumn rfl rfl rfl (by decide +kernel) ⟨Nat.le_of_ble_eq_true rfl, Nat.le_of_ble_eq_true rfl⟩) (xpV (wc := (wD_177 h cs gI gL gA gQ)) hP hD hK hN [0, 1, 2, 3, 4, 5, 6, 7, 8, 9, 10, 11, 12, 13, 14, 15, 16] rfl (by decide) 0 (ci := 10) rfl rfl _) rfl rfl hl.1 rfl (lv_room (Nat.le_of_ble_eq_true rfl)) dX10_ledAt_12 ⟨Nat.zero_le _, Nat.zero_le _⟩) (fun r_53 u_52 H locs hw hP hD hS => ?_)
              obtain ⟨hf_54, rfl⟩ := hw
              have hP : va_P (dC, dI) vwCl (rW h cs gI gL gA gQ) H := hP
              have hD : va_D A0 (rW h cs gI gL gA gQ) := hD
              obtain rfl := hf_54
              refine lv_if_eq (tgt := 45) hx hb dX10_ledAt_15 (by decide) (fun c9 => False.elim (by revert c9; decide +kernel)) (fun _ => ?_)
              refine lv_iload_n hx hb dX10_ledAt_18 rfl (lv_at hl 1 rfl) ?_
              refine lv_if_ne (tgt := 33) hx hb dX10_ledAt_19 (by decide) (fun c9 => False.elim (by revert c9; decide +kernel)) (fun _ => ?_)
              refine lv_aload_n hx hb dX10_ledAt_22 rfl (lv_at hl 0 rfl) ?_
              refine lv_iload_n hx hb dX10_ledAt_23 rfl (lv_at hl 2 rfl) ?_
              refine xj_i (wc := (wD_177 h cs gI gL gA gQ)) (wr := ([] : va_W)) hP hD hS hA [0, 1, 2, 3, 4, 5, 6, 7, 8, 9, 10, 11, 12, 13, 14, 15, 16] [] rfl rfl (by decide) (by decide) (va_runV (As := [.int (nI 1)]) (rest := []) ⟨hx, hb, hml, hown, hts⟩ (a_X10_isRow_231 l dC dI h cs H.size gI gL gA gQ ) (cwV 1 hts gX10_ledAt_X10_isRow rfl rfl rfl (by decide +kernel) ⟨Nat.le_of_ble_eq_true rfl, Nat.le_of_ble_eq_true rfl⟩) (xpV (wc := (wD_177 h cs gI gL gA gQ)) hP hD hK hN [0, 1, 2, 3, 4, 5, 6, 7, 8, 9, 10, 11, 12, 13, 14, 15, 16] rfl (by decide) 0 (ci := 10) rfl rfl _) rfl rfl hl.1 rfl (lv_room (Nat.le_of_ble_eq_true rfl)) dX10_ledAt_24 ⟨Nat.zero_le _, Nat.zero_le _⟩) (fun r_56 u_55 H locs hw hP hD hS => ?_)
              obtain ⟨hf_57, rfl⟩ := hw
              have hP : va_P (dC, dI) vwCl (rW h cs gI gL gA gQ) H := hP
              have hD : va_D A0 (rW h cs gI gL gA gQ) := hD
              obtain rfl := hf_57
              refine lv_if_eq (tgt := 45) hx hb dX10_ledAt_27 (by decide) (fun c9 => False.elim (by revert c9; decide +kernel)) (fun _ => ?_)
              refine lv_goto (tgt := 41) hx hb dX10_ledAt_30 (by decide) ?_
              refine lv_iconst (v := nI 1) hx hb dX10_ledAt_41 (by decide) ?_
              refine lv_goto (tgt := 46) hx hb dX10_ledAt_42 (by decide) ?_
              refine lv_istore (lv' := [(4, .int (nI 1)), (0, .ref (h 0)), (1, .int (nI 0)), (2, .int (nI 1)), (3, .int (nI 1))]) hx hb dX10_ledAt_46 hl (by decide) rfl (fun ls hl => ?_)
              refine lv_iload hx hb dX10_ledAt_48 (lv_at hl 0 rfl) ?_
              refine lv_if_ne (tgt := 56) hx hb dX10_ledAt_50 (by decide) (fun _ => ?_) (fun c9 => False.elim (by revert c9; decide +kernel))
              refine lv_aload_n hx hb dX10_ledAt_56 rfl (lv_at hl 1 rfl) ?_
              refine xj_i (wc := (wD_177 h cs gI gL gA gQ)) (wr := ([] : va_W)) hP hD hS hA [0, 1, 2, 3, 4, 5, 6, 7, 8, 9, 10, 11, 12, 13, 14, 15, 16] [] rfl rfl (by decide) (by decide) (va_runV (As := []) (rest := []) ⟨hx, hb, hml, hown, hts⟩ (a_X10_lead_229 l dC dI h cs H.size gI gL gA gQ ) (cwV 0 hts gX10_ledAt_X10_lead rfl rfl rfl (by decide +kernel) ⟨Nat.le_of_ble_eq_true rfl, Nat.le_of_ble_eq_true rfl⟩) (xpV (wc := (wD_177 h cs gI gL gA gQ)) hP hD hK hN [0, 1, 2, 3, 4, 5, 6, 7, 8, 9, 10, 11, 12, 13, 14, 15, 16] rfl (by decide) 0 (ci := 10) rfl rfl _) rfl rfl hl.1 rfl (lv_room (Nat.le_of_ble_eq_true rfl)) dX10_ledAt_57 ⟨Nat.zero_le _, Nat.zero_le _⟩) (fun r_59 u_58 H locs hw hP hD hS => ?_)
              obtain ⟨hf_60, rfl⟩ := hw
              have hP : va_P (dC, dI) vwCl (rW h cs gI gL qA_210 gQ) H := hP
              have hD : va_D A0 (rW h cs gI gL qA_210 gQ) := hD
              obtain rfl := hf_60
              refine lv_istore (lv' := [(5, .int (nI 0)), (4, .int (nI 1)), (0, .ref (h 0)), (1, .int (nI 0)), (2, .int (nI 1)), (3, .int (nI 1))]) hx hb dX10_ledAt_60 hl (by decide) rfl (fun ls hl => ?_)
              refine lv_iload_n hx hb dX10_ledAt_62 rfl (lv_at hl 3 rfl) ?_
              refine lv_if_ne (tgt := 79) hx hb dX10_ledAt_63 (by decide) (fun c9 => False.elim (by revert c9; decide +kernel)) (fun _ => ?_)
              refine lv_aload_n hx hb dX10_ledAt_66 rfl (lv_at hl 2 rfl) ?_
              refine va_get (D := (dC, dI)) (ci := 10) (v := .ref (h 17)) (C := RX10) (T := TX10) (N := 28) hx hb hts hinX10 hown hK hP 0 rfl rfl 17 (by decide) (hts (.fieldLink RX10 41 "MixedWordsModel" "cols" "[I") (by decide +kernel)) (fun _ h9 => h9) rfl dX10_ledAt_67 ?_
              refine lv_iconst (v := nI 5) hx hb dX10_ledAt_70 (by decide) ?_
              refine lv_iload_n hx hb dX10_ledAt_71 rfl (lv_at hl 5 rfl) ?_
              refine lv_imul hx hb dX10_ledAt_72 ?_
              refine xt_i (y := nI 5) (by decide +kernel) ?_
              refine lv_iload_n hx hb dX10_ledAt_73 rfl (lv_at hl 4 rfl) ?_
              refine lv_iadd hx hb dX10_ledAt_74 ?_
              refine xt_i (y := nI 6) (by decide +kernel) ?_
              refine xa_iald hx hb hK hP 8 0 rfl rfl (by omega) (by decide) dX10_ledAt_75 ?_
              refine xt_i (y := nI 0) (by decide +kernel) ?_
              refine lv_goto (tgt := 89) hx hb dX10_ledAt_76 (by decide) ?_
              exact xr_i (v := (nI 0)) hx hb hr hlocks hK hS dX10_ledAt_89 (gI, gL, qA_210, gQ) ⟨qA_210, (by decide +kernel), rfl⟩ hP hD
          · skip
            refine lv_iload_n hx hb dX10_ledAt_0 rfl (lv_at hl 1 rfl) ?_
            refine lv_i2l (v := (0 : Int64)) hx hb dX10_ledAt_1 (by decide +kernel) ?_
            refine lv_lconst (v := 0) hx hb dX10_ledAt_2 rfl ?_
            refine lv_lconst (v := 1) hx hb dX10_ledAt_3 rfl ?_
            refine xj_i (wc := ([] : va_W)) (wr := (rW h cs gI gL gA gQ)) hP hD hS hA [] [0, 1, 2, 3, 4, 5, 6, 7, 8, 9, 10, 11, 12, 13, 14, 15, 16] rfl rfl (by decide) (by decide) (va_runS (As := [.long (0 : Int64), .long (0 : Int64), .long (1 : Int64)]) (rest := []) ⟨hx, hb, hml, hown, hts⟩ (a_X10_in_201 l dC dI h cs H.size I L A Q ) (va_cwS 3 hts gX10_ledAt_X10_in rfl rfl rfl (by decide +kernel) ⟨Nat.le_of_ble_eq_true rfl, Nat.le_of_ble_eq_true rfl⟩) (xpS (wc := ([] : va_W)) hP hD hK hN [] rfl (by decide) _) rfl rfl hl.1 rfl (lv_room (Nat.le_of_ble_eq_true rfl)) dX10_ledAt_4 ⟨Nat.zero_le _, Nat.zero_le _⟩) (fun r_62 u_61 H locs hw hP hD hS => ?_)
            obtain ⟨hf_63, rfl⟩ := hw
            have hP : va_P (dC, dI) vwCl (rW h cs gI gL gA gQ) H := hP
            have hD : va_D A0 (rW h cs gI gL gA gQ) := hD
            obtain rfl := hf_63
            refine lv_if_eq (tgt := 45) hx hb dX10_ledAt_7 (by decide) (fun c9 => False.elim (by revert c9; decide +kernel)) (fun _ => ?_)
            refine lv_aload_n hx hb dX10_ledAt_10 rfl (lv_at hl 0 rfl) ?_
            refine lv_iload_n hx hb dX10_ledAt_11 rfl (lv_at hl 3 rfl) ?_
            refine xj_i (wc := (wD_177 h cs gI gL gA gQ)) (wr := ([] : va_W)) hP hD hS hA [0, 1, 2, 3, 4, 5, 6, 7, 8, 9, 10, 11, 12, 13, 14, 15, 16] [] rfl rfl (by decide) (by decide) (va_runV (As := [.int (nI 1)]) (rest := []) ⟨hx, hb, hml, hown, hts⟩ (a_X10_isColumn_205 l dC dI h cs H.size gI gL gA gQ ) (cwV 1 hts gX10_ledAt_X10_isColumn rfl rfl rfl (by decide +kernel) ⟨Nat.le_of_ble_eq_true rfl, Nat.le_of_ble_eq_true rfl⟩) (xpV (wc := (wD_177 h cs gI gL gA gQ)) hP hD hK hN [0, 1, 2, 3, 4, 5, 6, 7, 8, 9, 10, 11, 12, 13, 14, 15, 16] rfl (by decide) 0 (ci := 10) rfl rfl _) rfl rfl hl.1 rfl (lv_room (Nat.le_of_ble_eq_true rfl)) dX10_ledAt_12 ⟨Nat.zero_le _, Nat.zero_le _⟩) (fun r_65 u_64 H locs hw hP hD hS => ?_)
            obtain ⟨hf_66, rfl⟩ := hw
            have hP : va_P (dC, dI) vwCl (rW h cs gI gL gA gQ) H := hP
            have hD : va_D A0 (rW h cs gI gL gA gQ) := hD
            obtain rfl := hf_66
            refine lv_if_eq (tgt := 45) hx hb dX10_ledAt_15 (by decide) (fun c9 => False.elim (by revert c9; decide +kernel)) (fun _ => ?_)
            refine lv_iload_n hx hb dX10_ledAt_18 rfl (lv_at hl 1 rfl) ?_
            refine lv_if_ne (tgt := 33) hx hb dX10_ledAt_19 (by decide) (fun c9 => False.elim (by revert c9; decide +kernel)) (fun _ => ?_)
            refine lv_aload_n hx hb dX10_ledAt_22 rfl (lv_at hl 0 rfl) ?_
            refine lv_iload_n hx hb dX10_ledAt_23 rfl (lv_at hl 2 rfl) ?_
            refine xj_i (wc := (rW h cs gI gL gA gQ)) (wr := ([] : va_W)) hP hD hS hA [0, 1, 2, 3, 4, 5, 6, 7, 8, 9, 10, 11, 12, 13, 14, 15, 16] [] rfl rfl (by decide) (by decide) (va_runV (As := [.int y]) (rest := []) ⟨hx, hb, hml, hown, hts⟩ (k_X10_isRow l dC dI h cs H.size gI gL gA gQ y 2 (by decide +kernel) (by first | assumption | omega) (by first | assumption | omega)) (cwV 1 hts gX10_ledAt_X10_isRow rfl rfl rfl (by decide +kernel) ⟨Nat.le_of_ble_eq_true rfl, Nat.le_of_ble_eq_true rfl⟩) (xpV (wc := (rW h cs gI gL gA gQ)) hP hD hK hN [0, 1, 2, 3, 4, 5, 6, 7, 8, 9, 10, 11, 12, 13, 14, 15, 16] rfl (by decide) 0 (ci := 10) rfl rfl _) rfl rfl hl.1 rfl (lv_room (Nat.le_of_ble_eq_true rfl)) dX10_ledAt_24 ⟨Nat.zero_le _, Nat.zero_le _⟩) (fun r_68 u_67 H locs hw hP hD hS => ?_)
            obtain ⟨hf_69, rfl⟩ := hw
            have hP : va_P (dC, dI) vwCl (rW h cs gI gL gA gQ) H := hP
            have hD : va_D A0 (rW h cs gI gL gA gQ) := hD
            rcases hf_69 with ⟨rfl, i_70, hh_71, ee_72⟩ | ⟨rfl, -⟩
            · skip
              exact absurd (by rw [ee_72, nI_toInt (by omega)]; omega) hz_y
            · skip
              refine lv_if_eq (tgt := 45) hx hb dX10_ledAt_27 (by decide) (fun _ => ?_) (fun c9 => False.elim (by revert c9; decide +kernel))
              refine lv_iconst (v := nI 0) hx hb dX10_ledAt_45 (by decide) ?_
              refine lv_istore (lv' := [(4, .int (nI 0)), (0, .ref (h 0)), (1, .int (nI 0)), (2, .int y), (3, .int (nI 1))]) hx hb dX10_ledAt_46 hl (by decide) rfl (fun ls hl => ?_)
              refine lv_iload hx hb dX10_ledAt_48 (lv_at hl 0 rfl) ?_
              refine lv_if_ne (tgt := 56) hx hb dX10_ledAt_50 (by decide) (fun c9 => False.elim (by revert c9; decide +kernel)) (fun _ => ?_)
              refine lv_ldc (v := (-1000001)) hx hb hown (hts (.constant RX10 232 (-1000001)) (by decide +kernel)) dX10_ledAt_53 ?_
              exact xr_i (v := (-1000001 : Int32)) hx hb hr hlocks hK hS dX10_ledAt_55 (gI, gL, gA, gQ) ⟨gA, (by unfold an_ledAt; rw [if_neg (by omega)]), rfl⟩ hP hD
      · skip
        refine lv_iload_n hx hb dX10_ledAt_0 rfl (lv_at hl 1 rfl) ?_
        refine lv_i2l (v := (0 : Int64)) hx hb dX10_ledAt_1 (by decide +kernel) ?_
        refine lv_lconst (v := 0) hx hb dX10_ledAt_2 rfl ?_
        refine lv_lconst (v := 1) hx hb dX10_ledAt_3 rfl ?_
        refine xj_i (wc := ([] : va_W)) (wr := (rW h cs gI gL gA gQ)) hP hD hS hA [] [0, 1, 2, 3, 4, 5, 6, 7, 8, 9, 10, 11, 12, 13, 14, 15, 16] rfl rfl (by decide) (by decide) (va_runS (As := [.long (0 : Int64), .long (0 : Int64), .long (1 : Int64)]) (rest := []) ⟨hx, hb, hml, hown, hts⟩ (a_X10_in_201 l dC dI h cs H.size I L A Q ) (va_cwS 3 hts gX10_ledAt_X10_in rfl rfl rfl (by decide +kernel) ⟨Nat.le_of_ble_eq_true rfl, Nat.le_of_ble_eq_true rfl⟩) (xpS (wc := ([] : va_W)) hP hD hK hN [] rfl (by decide) _) rfl rfl hl.1 rfl (lv_room (Nat.le_of_ble_eq_true rfl)) dX10_ledAt_4 ⟨Nat.zero_le _, Nat.zero_le _⟩) (fun r_74 u_73 H locs hw hP hD hS => ?_)
        obtain ⟨hf_75, rfl⟩ := hw
        have hP : va_P (dC, dI) vwCl (rW h cs gI gL gA gQ) H := hP
        have hD : va_D A0 (rW h cs gI gL gA gQ) := hD
        obtain rfl := hf_75
        refine lv_if_eq (tgt := 45) hx hb dX10_ledAt_7 (by decide) (fun c9 => False.elim (by revert c9; decide +kernel)) (fun _ => ?_)
        refine lv_aload_n hx hb dX10_ledAt_10 rfl (lv_at hl 0 rfl) ?_
        refine lv_iload_n hx hb dX10_ledAt_11 rfl (lv_at hl 3 rfl) ?_
        refine xj_i (wc := (rW h cs gI gL gA gQ)) (wr := ([] : va_W)) hP hD hS hA [0, 1, 2, 3, 4, 5, 6, 7, 8, 9, 10, 11, 12, 13, 14, 15, 16] [] rfl rfl (by decide) (by decide) (va_runV (As := [.int z]) (rest := []) ⟨hx, hb, hml, hown, hts⟩ (k_X10_isColumn l dC dI h cs H.size gI gL gA gQ z 2 (by decide +kernel) (by first | assumption | omega) (by first | assumption | omega)) (cwV 1 hts gX10_ledAt_X10_isColumn rfl rfl rfl (by decide +kernel) ⟨Nat.le_of_ble_eq_true rfl, Nat.le_of_ble_eq_true rfl⟩) (xpV (wc := (rW h cs gI gL gA gQ)) hP hD hK hN [0, 1, 2, 3, 4, 5, 6, 7, 8, 9, 10, 11, 12, 13, 14, 15, 16] rfl (by decide) 0 (ci := 10) rfl rfl _) rfl rfl hl.1 rfl (lv_room (Nat.le_of_ble_eq_true rfl)) dX10_ledAt_12 ⟨Nat.zero_le _, Nat.zero_le _⟩) (fun r_77 u_76 H locs hw hP hD hS => ?_)
        obtain ⟨hf_78, rfl⟩ := hw
        have hP : va_P (dC, dI) vwCl (rW h cs gI gL gA gQ) H := hP
        have hD : va_D A0 (rW h cs gI gL gA gQ) := hD
        rcases hf_78 with ⟨rfl, i_79, hh_80, ee_81⟩ | ⟨rfl, -⟩
        · skip
          exact absurd (by rw [ee_81, nI_toInt (by omega)]; omega) hz_z
        · skip
          refine lv_if_eq (tgt := 45) hx hb dX10_ledAt_15 (by decide) (fun _ => ?_) (fun c9 => False.elim (by revert c9; decide +kernel))
          refine lv_iconst (v := nI 0) hx hb dX10_ledAt_45 (by decide) ?_
          refine lv_istore (lv' := [(4, .int (nI 0)), (0, .ref (h 0)), (1, .int (nI 0)), (2, .int y), (3, .int z)]) hx hb dX10_ledAt_46 hl (by decide) rfl (fun ls hl => ?_)
          refine lv_iload hx hb dX10_ledAt_48 (lv_at hl 0 rfl) ?_
          refine lv_if_ne (tgt := 56) hx hb dX10_ledAt_50 (by decide) (fun c9 => False.elim (by revert c9; decide +kernel)) (fun _ => ?_)
          refine lv_ldc (v := (-1000001)) hx hb hown (hts (.constant RX10 232 (-1000001)) (by decide +kernel)) dX10_ledAt_53 ?_
          exact xr_i (v := (-1000001 : Int32)) hx hb hr hlocks hK hS dX10_ledAt_55 (gI, gL, gA, gQ) ⟨gA, (by unfold an_ledAt; rw [if_neg (by omega)]), rfl⟩ hP hD
    · skip
      rcases splR z 0 1 (by decide) with ⟨i_z, h_z, g_z, rfl⟩ | hz_z
      · skip
        rcases (show i_z = 0 ∨ i_z = 1 by omega) with rfl | rfl
        · skip
          rcases splR y 0 1 (by decide) with ⟨i_y, h_y, g_y, rfl⟩ | hz_y
          · skip
            rcases (show i_y = 0 ∨ i_y = 1 by omega) with rfl | rfl
            · skip
              refine lv_iload_n hx hb dX10_ledAt_0 rfl (lv_at hl 1 rfl) ?_
              refine lv_i2l (v := (1 : Int64)) hx hb dX10_ledAt_1 (by decide +kernel) ?_
              refine lv_lconst (v := 0) hx hb dX10_ledAt_2 rfl ?_
              refine lv_lconst (v := 1) hx hb dX10_ledAt_3 rfl ?_
              refine xj_i (wc := ([] : va_W)) (wr := (rW h cs gI gL gA gQ)) hP hD hS hA [] [0, 1, 2, 3, 4, 5, 6, 7, 8, 9, 10, 11, 12, 13, 14, 15, 16] rfl rfl (by decide) (by decide) (va_runS (As := [.long (1 : Int64), .long (0 : Int64), .long (1 : Int64)]) (rest := []) ⟨hx, hb, hml, hown, hts⟩ (a_X10_in_206 l dC dI h cs H.size I L A Q ) (va_cwS 3 hts gX10_ledAt_X10_in rfl rfl rfl (by decide +kernel) ⟨Nat.le_of_ble_eq_true rfl, Nat.le_of_ble_eq_true rfl⟩) (xpS (wc := ([] : va_W)) hP hD hK hN [] rfl (by decide) _) rfl rfl hl.1 rfl (lv_room (Nat.le_of_ble_eq_true rfl)) dX10_ledAt_4 ⟨Nat.zero_le _, Nat.zero_le _⟩) (fun r_83 u_82 H locs hw hP hD hS => ?_)
              obtain ⟨hf_84, rfl⟩ := hw
              have hP : va_P (dC, dI) vwCl (rW h cs gI gL gA gQ) H := hP
              have hD : va_D A0 (rW h cs gI gL gA gQ) := hD
              obtain rfl := hf_84
              refine lv_if_eq (tgt := 45) hx hb dX10_ledAt_7 (by decide) (fun c9 => False.elim (by revert c9; decide +kernel)) (fun _ => ?_)
              refine lv_aload_n hx hb dX10_ledAt_10 rfl (lv_at hl 0 rfl) ?_
              refine lv_iload_n hx hb dX10_ledAt_11 rfl (lv_at hl 3 rfl) ?_
              refine xj_i (wc := (wD_177 h cs gI gL gA gQ)) (wr := ([] : va_W)) hP hD hS hA [0, 1, 2, 3, 4, 5, 6, 7, 8, 9, 10, 11, 12, 13, 14, 15, 16] [] rfl rfl (by decide) (by decide) (va_runV (As := [.int (nI 0)]) (rest := []) ⟨hx, hb, hml, hown, hts⟩ (a_X10_isColumn_200 l dC dI h cs H.size gI gL gA gQ ) (cwV 1 hts gX10_ledAt_X10_isColumn rfl rfl rfl (by decide +kernel) ⟨Nat.le_of_ble_eq_true rfl, Nat.le_of_ble_eq_true rfl⟩) (xpV (wc := (wD_177 h cs gI gL gA gQ)) hP hD hK hN [0, 1, 2, 3, 4, 5, 6, 7, 8, 9, 10, 11, 12, 13, 14, 15, 16] rfl (by decide) 0 (ci := 10) rfl rfl _) rfl rfl hl.1 rfl (lv_room (Nat.le_of_ble_eq_true rfl)) dX10_ledAt_12 ⟨Nat.zero_le _, Nat.zero_le _⟩) (fun r_86 u_85 H locs hw hP hD hS => ?_)
              obtain ⟨hf_87, rfl⟩ := hw
              have hP : va_P (dC, dI) vwCl (rW h cs gI gL gA gQ) H := hP
              have hD : va_D A0 (rW h cs gI gL gA gQ) := hD
              obtain rfl := hf_87
              refine lv_if_eq (tgt := 45) hx hb dX10_ledAt_15 (by decide) (fun c9 => False.elim (by revert c9; decide +kernel)) (fun _ => ?_)
              refine lv_iload_n hx hb dX10_ledAt_18 rfl (lv_at hl 1 rfl) ?_
              refine lv_if_ne (tgt := 33) hx hb dX10_ledAt_19 (by decide) (fun _ => ?_) (fun c9 => False.elim (by revert c9; decide +kernel))
              refine lv_aload_n hx hb dX10_ledAt_33 rfl (lv_at hl 0 rfl) ?_
              refine lv_iload_n hx hb dX10_ledAt_34 rfl (lv_at hl 2 rfl) ?_
              refine xj_i (wc := (wD_177 h cs gI gL gA gQ)) (wr := ([] : va_W)) hP hD hS hA [0, 1, 2, 3, 4, 5, 6, 7, 8, 9, 10, 11, 12, 13, 14, 15, 16] [] rfl rfl (by decide) (by decide) (va_runV (As := [.int (nI 0)]) (rest := []) ⟨hx, hb, hml, hown, hts⟩ (a_X10_isColumn_200 l dC dI h cs H.size gI gL gA gQ ) (cwV 1 hts gX10_ledAt_X10_isColumn rfl rfl rfl (by decide +kernel) ⟨Nat.le_of_ble_eq_true rfl, Nat.le_of_ble_eq_true rfl⟩) (xpV (wc := (wD_177 h cs gI gL gA gQ)) hP hD hK hN [0, 1, 2, 3, 4, 5, 6, 7, 8, 9, 10, 11, 12, 13, 14, 15, 16] rfl (by decide) 0 (ci := 10) rfl rfl _) rfl rfl hl.1 rfl (lv_room (Nat.le_of_ble_eq_true rfl)) dX10_ledAt_35 ⟨Nat.zero_le _, Nat.zero_le _⟩) (fun r_89 u_88 H locs hw hP hD hS => ?_)
              obtain ⟨hf_90, rfl⟩ := hw
              have hP : va_P (dC, dI) vwCl (rW h cs gI gL gA gQ) H := hP
              have hD : va_D A0 (rW h cs gI gL gA gQ) := hD
              obtain rfl := hf_90
              refine lv_if_eq (tgt := 45) hx hb dX10_ledAt_38 (by decide) (fun c9 => False.elim (by revert c9; decide +kernel)) (fun _ => ?_)
              refine lv_iconst (v := nI 1) hx hb dX10_ledAt_41 (by decide) ?_
              refine lv_goto (tgt := 46) hx hb dX10_ledAt_42 (by decide) ?_
              refine lv_istore (lv' := [(4, .int (nI 1)), (0, .ref (h 0)), (1, .int (nI 1)), (2, .int (nI 0)), (3, .int (nI 0))]) hx hb dX10_ledAt_46 hl (by decide) rfl (fun ls hl => ?_)
              refine lv_iload hx hb dX10_ledAt_48 (lv_at hl 0 rfl) ?_
              refine lv_if_ne (tgt := 56) hx hb dX10_ledAt_50 (by decide) (fun _ => ?_) (fun c9 => False.elim (by revert c9; decide +kernel))
              refine lv_aload_n hx hb dX10_ledAt_56 rfl (lv_at hl 1 rfl) ?_
              refine xj_i (wc := (wD_177 h cs gI gL gA gQ)) (wr := ([] : va_W)) hP hD hS hA [0, 1, 2, 3, 4, 5, 6, 7, 8, 9, 10, 11, 12, 13, 14, 15, 16] [] rfl rfl (by decide) (by decide) (va_runV (As := []) (rest := []) ⟨hx, hb, hml, hown, hts⟩ (a_X10_lead_229 l dC dI h cs H.size gI gL gA gQ ) (cwV 0 hts gX10_ledAt_X10_lead rfl rfl rfl (by decide +kernel) ⟨Nat.le_of_ble_eq_true rfl, Nat.le_of_ble_eq_true rfl⟩) (xpV (wc := (wD_177 h cs gI gL gA gQ)) hP hD hK hN [0, 1, 2, 3, 4, 5, 6, 7, 8, 9, 10, 11, 12, 13, 14, 15, 16] rfl (by decide) 0 (ci := 10) rfl rfl _) rfl rfl hl.1 rfl (lv_room (Nat.le_of_ble_eq_true rfl)) dX10_ledAt_57 ⟨Nat.zero_le _, Nat.zero_le _⟩) (fun r_92 u_91 H locs hw hP hD hS => ?_)
              obtain ⟨hf_93, rfl⟩ := hw
              have hP : va_P (dC, dI) vwCl (rW h cs gI gL qA_210 gQ) H := hP
              have hD : va_D A0 (rW h cs gI gL qA_210 gQ) := hD
              obtain rfl := hf_93
              refine lv_istore (lv' := [(5, .int (nI 0)), (4, .int (nI 1)), (0, .ref (h 0)), (1, .int (nI 1)), (2, .int (nI 0)), (3, .int (nI 0))]) hx hb dX10_ledAt_60 hl (by decide) rfl (fun ls hl => ?_)
              refine lv_iload_n hx hb dX10_ledAt_62 rfl (lv_at hl 3 rfl) ?_
              refine lv_if_ne (tgt := 79) hx hb dX10_ledAt_63 (by decide) (fun _ => ?_) (fun c9 => False.elim (by revert c9; decide +kernel))
              refine lv_aload_n hx hb dX10_ledAt_79 rfl (lv_at hl 2 rfl) ?_
              refine va_get (D := (dC, dI)) (ci := 10) (v := .ref (h 18)) (C := RX10) (T := TX10) (N := 28) hx hb hts hinX10 hown hK hP 0 rfl rfl 18 (by decide) (hts (.fieldLink RX10 44 "MixedWordsModel" "trans" "[I") (by decide +kernel)) (fun _ h9 => h9) rfl dX10_ledAt_80 ?_
              refine lv_iconst (v := nI 4) hx hb dX10_ledAt_83 (by decide) ?_
              refine lv_iload_n hx hb dX10_ledAt_84 rfl (lv_at hl 4 rfl) ?_
              refine lv_imul hx hb dX10_ledAt_85 ?_
              refine xt_i (y := nI 0) (by decide +kernel) ?_
              refine lv_iload_n hx hb dX10_ledAt_86 rfl (lv_at hl 5 rfl) ?_
              refine lv_iadd hx hb dX10_ledAt_87 ?_
              refine xt_i (y := nI 0) (by decide +kernel) ?_
              refine xa_iald hx hb hK hP 9 0 rfl rfl (by omega) (by decide) dX10_ledAt_88 ?_
              refine xt_i (y := nI 1) (by decide +kernel) ?_
              exact xr_i (v := (nI 1)) hx hb hr hlocks hK hS dX10_ledAt_89 (gI, gL, qA_210, gQ) ⟨qA_210, (by decide +kernel), rfl⟩ hP hD
            · skip
              refine lv_iload_n hx hb dX10_ledAt_0 rfl (lv_at hl 1 rfl) ?_
              refine lv_i2l (v := (1 : Int64)) hx hb dX10_ledAt_1 (by decide +kernel) ?_
              refine lv_lconst (v := 0) hx hb dX10_ledAt_2 rfl ?_
              refine lv_lconst (v := 1) hx hb dX10_ledAt_3 rfl ?_
              refine xj_i (wc := ([] : va_W)) (wr := (rW h cs gI gL gA gQ)) hP hD hS hA [] [0, 1, 2, 3, 4, 5, 6, 7, 8, 9, 10, 11, 12, 13, 14, 15, 16] rfl rfl (by decide) (by decide) (va_runS (As := [.long (1 : Int64), .long (0 : Int64), .long (1 : Int64)]) (rest := []) ⟨hx, hb, hml, hown, hts⟩ (a_X10_in_206 l dC dI h cs H.size I L A Q ) (va_cwS 3 hts gX10_ledAt_X10_in rfl rfl rfl (by decide +kernel) ⟨Nat.le_of_ble_eq_true rfl, Nat.le_of_ble_eq_true rfl⟩) (xpS (wc := ([] : va_W)) hP hD hK hN [] rfl (by decide) _) rfl rfl hl.1 rfl (lv_room (Nat.le_of_ble_eq_true rfl)) dX10_ledAt_4 ⟨Nat.zero_le _, Nat.zero_le _⟩) (fun r_95 u_94 H locs hw hP hD hS => ?_)
              obtain ⟨hf_96, rfl⟩ := hw
              have hP : va_P (dC, dI) vwCl (rW h cs gI gL gA gQ) H := hP
              have hD : va_D A0 (rW h cs gI gL gA gQ) := hD
              obtain rfl := hf_96
              refine lv_if_eq (tgt := 45) hx hb dX10_ledAt_7 (by decide) (fun c9 => False.elim (by revert c9; decide +kernel)) (fun _ => ?_)
              refine lv_aload_n hx hb dX10_ledAt_10 rfl (lv_at hl 0 rfl) ?_
              refine lv_iload_n hx hb dX10_ledAt_11 rfl (lv_at hl 3 rfl) ?_
              refine xj_i (wc := (wD_177 h cs gI gL gA gQ)) (wr := ([] : va_W)) hP hD hS hA [0, 1, 2, 3, 4, 5, 6, 7, 8, 9, 10, 11, 12, 13, 14, 15, 16] [] rfl rfl (by decide) (by decide) (va_runV (As := [.int (nI 0)]) (rest := []) ⟨hx, hb, hml, hown, hts⟩ (a_X10_isColumn_200 l dC dI h cs H.size gI gL gA gQ ) (cwV 1 hts gX10_ledAt_X10_isColumn rfl rfl rfl (by decide +kernel) ⟨Nat.le_of_ble_eq_true rfl, Nat.le_of_ble_eq_true rfl⟩) (xpV (wc := (wD_177 h cs gI gL gA gQ)) hP hD hK hN [0, 1, 2, 3, 4, 5, 6, 7, 8, 9, 10, 11, 12, 13, 14, 15, 16] rfl (by decide) 0 (ci := 10) rfl rfl _) rfl rfl hl.1 rfl (lv_room (Nat.le_of_ble_eq_true rfl)) dX10_ledAt_12 ⟨Nat.zero_le _, Nat.zero_le _⟩) (fun r_98 u_97 H locs hw hP hD hS => ?_)
              obtain ⟨hf_99, rfl⟩ := hw
              have hP : va_P (dC, dI) vwCl (rW h cs gI gL gA gQ) H := hP
              have hD : va_D A0 (rW h cs gI gL gA gQ) := hD
              obtain rfl := hf_99
              refine lv_if_eq (tgt := 45) hx hb dX10_ledAt_15 (by decide) (fun c9 => False.elim (by revert c9; decide +kernel)) (fun _ => ?_)
              refine lv_iload_n hx hb dX10_ledAt_18 rfl (lv_at hl 1 rfl) ?_
              refine lv_if_ne (tgt := 33) hx hb dX10_ledAt_19 (by decide) (fun _ => ?_) (fun c9 => False.elim (by revert c9; decide +kernel))
              refine lv_aload_n hx hb dX10_ledAt_33 rfl (lv_at hl 0 rfl) ?_
              refine lv_iload_n hx hb dX10_ledAt_34 rfl (lv_at hl 2 rfl) ?_
              refine xj_i (wc := (wD_177 h cs gI gL gA gQ)) (wr := ([] : va_W)) hP hD hS hA [0, 1, 2, 3, 4, 5, 6, 7, 8, 9, 10, 11, 12, 13, 14, 15, 16] [] rfl rfl (by decide) (by decide) (va_runV (As := [.int (nI 1)]) (rest := []) ⟨hx, hb, hml, hown, hts⟩ (a_X10_isColumn_205 l dC dI h cs H.size gI gL gA gQ ) (cwV 1 hts gX10_ledAt_X10_isColumn rfl rfl rfl (by decide +kernel) ⟨Nat.le_of_ble_eq_true rfl, Nat.le_of_ble_eq_true rfl⟩) (xpV (wc := (wD_177 h cs gI gL gA gQ)) hP hD hK hN [0, 1, 2, 3, 4, 5, 6, 7, 8, 9, 10, 11, 12, 13, 14, 15, 16] rfl (by decide) 0 (ci := 10) rfl rfl _) rfl rfl hl.1 rfl (lv_room (Nat.le_of_ble_eq_true rfl)) dX10_ledAt_35 ⟨Nat.zero_le _, Nat.zero_le _⟩) (fun r_101 u_100 H locs hw hP hD hS => ?_)
              obtain ⟨hf_102, rfl⟩ := hw
              have hP : va_P (dC, dI) vwCl (rW h cs gI gL gA gQ) H := hP
              have hD : va_D A0 (rW h cs gI gL gA gQ) := hD
              obtain rfl := hf_102
              refine lv_if_eq (tgt := 45) hx hb dX10_ledAt_38 (by decide) (fun c9 => False.elim (by revert c9; decide +kernel)) (fun _ => ?_)
              refine lv_iconst (v := nI 1) hx hb dX10_ledAt_41 (by decide) ?_
              refine lv_goto (tgt := 46) hx hb dX10_ledAt_42 (by decide) ?_
              refine lv_istore (lv' := [(4, .int (nI 1)), (0, .ref (h 0)), (1, .int (nI 1)), (2, .int (nI 1)), (3, .int (nI 0))]) hx hb dX10_ledAt_46 hl (by decide) rfl (fun ls hl => ?_)
              refine lv_iload hx hb dX10_ledAt_48 (lv_at hl 0 rfl) ?_
              refine lv_if_ne (tgt := 56) hx hb dX10_ledAt_50 (by decide) (fun _ => ?_) (fun c9 => False.elim (by revert c9; decide +kernel))
              refine lv_aload_n hx hb dX10_ledAt_56 rfl (lv_at hl 1 rfl) ?_
              refine xj_i (wc := (wD_177 h cs gI gL gA gQ)) (wr := ([] : va_W)) hP hD hS hA [0, 1, 2, 3, 4, 5, 6, 7, 8, 9, 10, 11, 12, 13, 14, 15, 16] [] rfl rfl (by decide) (by decide) (va_runV (As := []) (rest := []) ⟨hx, hb, hml, hown, hts⟩ (a_X10_lead_229 l dC dI h cs H.size gI gL gA gQ ) (cwV 0 hts gX10_ledAt_X10_lead rfl rfl rfl (by decide +kernel) ⟨Nat.le_of_ble_eq_true rfl, Nat.le_of_ble_eq_true rfl⟩) (xpV (wc := (wD_177 h cs gI gL gA gQ)) hP hD hK hN [0, 1, 2, 3, 4, 5, 6, 7, 8, 9, 10, 11, 12, 13, 14, 15, 16] rfl (by decide) 0 (ci := 10) rfl rfl _) rfl rfl hl.1 rfl (lv_room (Nat.le_of_ble_eq_true rfl)) dX10_ledAt_57 ⟨Nat.zero_le _, Nat.zero_le _⟩) (fun r_104 u_103 H locs hw hP hD hS => ?_)
              obtain ⟨hf_105, rfl⟩ := hw
              have hP : va_P (dC, dI) vwCl (rW h cs gI gL qA_210 gQ) H := hP
              have hD : va_D A0 (rW h cs gI gL qA_210 gQ) := hD
              obtain rfl := hf_105
              refine lv_istore (lv' := [(5, .int (nI 0)), (4, .int (nI 1)), (0, .ref (h 0)), (1, .int (nI 1)), (2, .int (nI 1)), (3, .int (nI 0))]) hx hb dX10_ledAt_60 hl (by decide) rfl (fun ls hl => ?_)
              refine lv_iload_n hx hb dX10_ledAt_62 rfl (lv_at hl 3 rfl) ?_
              refine lv_if_ne (tgt := 79) hx hb dX10_ledAt_63 (by decide) (fun _ => ?_) (fun c9 => False.elim (by revert c9; decide +kernel))
              refine lv_aload_n hx hb dX10_ledAt_79 rfl (lv_at hl 2 rfl) ?_
              refine va_get (D := (dC, dI)) (ci := 10) (v := .ref (h 18)) (C := RX10) (T := TX10) (N := 28) hx hb hts hinX10 hown hK hP 0 rfl rfl 18 (by decide) (hts (.fieldLink RX10 44 "MixedWordsModel" "trans" "[I") (by decide +kernel)) (fun _ h9 => h9) rfl dX10_ledAt_80 ?_
              refine lv_iconst (v := nI 4) hx hb dX10_ledAt_83 (by decide) ?_
              refine lv_iload_n hx hb dX10_ledAt_84 rfl (lv_at hl 4 rfl) ?_
              refine lv_imul hx hb dX10_ledAt_85 ?_
              refine xt_i (y := nI 4) (by decide +kernel) ?_
              refine lv_iload_n hx hb dX10_ledAt_86 rfl (lv_at hl 5 rfl) ?_
              refine lv_iadd hx hb dX10_ledAt_87 ?_
              refine xt_i (y := nI 4) (by decide +kernel) ?_
              refine xa_iald hx hb hK hP 9 0 rfl rfl (by omega) (by decide) dX10_ledAt_88 ?_
              refine xt_i (y := nI 0) (by decide +kernel) ?_
              exact xr_i (v := (nI 0)) hx hb hr hlocks hK hS dX10_ledAt_89 (gI, gL, qA_210, gQ) ⟨qA_210, (by decide +kernel), rfl⟩ hP hD
          · skip
            refine lv_iload_n hx hb dX10_ledAt_0 rfl (lv_at hl 1 rfl) ?_
            refine lv_i2l (v := (1 : Int64)) hx hb dX10_ledAt_1 (by decide +kernel) ?_
            refine lv_lconst (v := 0) hx hb dX10_ledAt_2 rfl ?_
            refine lv_lconst (v := 1) hx hb dX10_ledAt_3 rfl ?_
            refine xj_i (wc := ([] : va_W)) (wr := (rW h cs gI gL gA gQ)) hP hD hS hA [] [0, 1, 2, 3, 4, 5, 6, 7, 8, 9, 10, 11, 12, 13, 14, 15, 16] rfl rfl (by decide) (by decide) (va_runS (As := [.long (1 : Int64), .long (0 : Int64), .long (1 : Int64)]) (rest := []) ⟨hx, hb, hml, hown, hts⟩ (a_X10_in_206 l dC dI h cs H.size I L A Q ) (va_cwS 3 hts gX10_ledAt_X10_in rfl rfl rfl (by decide +kernel) ⟨Nat.le_of_ble_eq_true rfl, Nat.le_of_ble_eq_true rfl⟩) (xpS (wc := ([] : va_W)) hP hD hK hN [] rfl (by decide) _) rfl rfl hl.1 rfl (lv_room (Nat.le_of_ble_eq_true rfl)) dX10_ledAt_4 ⟨Nat.zero_le _, Nat.zero_le _⟩) (fun r_107 u_106 H locs hw hP hD hS => ?_)
            obtain ⟨hf_108, rfl⟩ := hw
            have hP : va_P (dC, dI) vwCl (rW h cs gI gL gA gQ) H := hP
            have hD : va_D A0 (rW h cs gI gL gA gQ) := hD
            obtain rfl := hf_108
            refine lv_if_eq (tgt := 45) hx hb dX10_ledAt_7 (by decide) (fun c9 => False.elim (by revert c9; decide +kernel)) (fun _ => ?_)
            refine lv_aload_n hx hb dX10_ledAt_10 rfl (lv_at hl 0 rfl) ?_
            refine lv_iload_n hx hb dX10_ledAt_11 rfl (lv_at hl 3 rfl) ?_
            refine xj_i (wc := (wD_177 h cs gI gL gA gQ)) (wr := ([] : va_W)) hP hD hS hA [0, 1, 2, 3, 4, 5, 6, 7, 8, 9, 10, 11, 12, 13, 14, 15, 16] [] rfl rfl (by decide) (by decide) (va_runV (As := [.int (nI 0)]) (rest := []) ⟨hx, hb, hml, hown, hts⟩ (a_X10_isColumn_200 l dC dI h cs H.size gI gL gA gQ ) (cwV 1 hts gX10_ledAt_X10_isColumn rfl rfl rfl (by decide +kernel) ⟨Nat.le_of_ble_eq_true rfl, Nat.le_of_ble_eq_true rfl⟩) (xpV (wc := (wD_177 h cs gI gL gA gQ)) hP hD hK hN [0, 1, 2, 3, 4, 5, 6, 7, 8, 9, 10, 11, 12, 13, 14, 15, 16] rfl (by decide) 0 (ci := 10) rfl rfl _) rfl rfl hl.1 rfl (lv_room (Nat.le_of_ble_eq_true rfl)) dX10_ledAt_12 ⟨Nat.zero_le _, Nat.zero_le _⟩) (fun r_110 u_109 H locs hw hP hD hS => ?_)
            obtain ⟨hf_111, rfl⟩ := hw
            have hP : va_P (dC, dI) vwCl (rW h cs gI gL gA gQ) H := hP
            have hD : va_D A0 (rW h cs gI gL gA gQ) := hD
            obtain rfl := hf_111
            refine lv_if_eq (tgt := 45) hx hb dX10_ledAt_15 (by decide) (fun c9 => False.elim (by revert c9; decide +kernel)) (fun _ => ?_)
            refine lv_iload_n hx hb dX10_ledAt_18 rfl (lv_at hl 1 rfl) ?_
            refine lv_if_ne (tgt := 33) hx hb dX10_ledAt_19 (by decide) (fun _ => ?_) (fun c9 => False.elim (by revert c9; decide +kernel))
            refine lv_aload_n hx hb dX10_ledAt_33 rfl (lv_at hl 0 rfl) ?_
            refine lv_iload_n hx hb dX10_ledAt_34 rfl (lv_at hl 2 rfl) ?_
            refine xj_i (wc := (rW h cs gI gL gA gQ)) (wr := ([] : va_W)) hP hD hS hA [0, 1, 2, 3, 4, 5, 6, 7, 8, 9, 10, 11, 12, 13, 14, 15, 16] [] rfl rfl (by decide) (by decide) (va_runV (As := [.int y]) (rest := []) ⟨hx, hb, hml, hown, hts⟩ (k_X10_isColumn l dC dI h cs H.size gI gL gA gQ y 2 (by decide +kernel) (by first | assumption | omega) (by first | assumption | omega)) (cwV 1 hts gX10_ledAt_X10_isColumn rfl rfl rfl (by decide +kernel) ⟨Nat.le_of_ble_eq_true rfl, Nat.le_of_ble_eq_true rfl⟩) (xpV (wc := (rW h cs gI gL gA gQ)) hP hD hK hN [0, 1, 2, 3, 4, 5, 6, 7, 8, 9, 10, 11, 12, 13, 14, 15, 16] rfl (by decide) 0 (ci := 10) rfl rfl _) rfl rfl hl.1 rfl (lv_room (Nat.le_of_ble_eq_true rfl)) dX10_ledAt_35 ⟨Nat.zero_le _, Nat.zero_le _⟩) (fun r_113 u_112 H locs hw hP hD hS => ?_)
            obtain ⟨hf_114, rfl⟩ := hw
            have hP : va_P (dC, dI) vwCl (rW h cs gI gL gA gQ) H := hP
            have hD : va_D A0 (rW h cs gI gL gA gQ) := hD
            rcases hf_114 with ⟨rfl, i_115, hh_116, ee_117⟩ | ⟨rfl, -⟩
            · skip
              exact absurd (by rw [ee_117, nI_toInt (by omega)]; omega) hz_y
            · skip
              refine lv_if_eq (tgt := 45) hx hb dX10_ledAt_38 (by decide) (fun _ => ?_) (fun c9 => False.elim (by revert c9; decide +kernel))
              refine lv_iconst (v := nI 0) hx hb dX10_ledAt_45 (by decide) ?_
              refine lv_istore (lv' := [(4, .int (nI 0)), (0, .ref (h 0)), (1, .int (nI 1)), (2, .int y), (3, .int (nI 0))]) hx hb dX10_ledAt_46 hl (by decide) rfl (fun ls hl => ?_)
              refine lv_iload hx hb dX10_ledAt_48 (lv_at hl 0 rfl) ?_
              refine lv_if_ne (tgt := 56) hx hb dX10_ledAt_50 (by decide) (fun c9 => False.elim (by revert c9; decide +kernel)) (fun _ => ?_)
              refine lv_ldc (v := (-1000001)) hx hb hown (hts (.constant RX10 232 (-1000001)) (by decide +kernel)) dX10_ledAt_53 ?_
              exact xr_i (v := (-1000001 : Int32)) hx hb hr hlocks hK hS dX10_ledAt_55 (gI, gL, gA, gQ) ⟨gA, (by unfold an_ledAt; rw [if_neg (by omega)]), rfl⟩ hP hD
        · skip
          rcases splR y 0 1 (by decide) with ⟨i_y, h_y, g_y, rfl⟩ | hz_y
          · skip
            rcases (show i_y = 0 ∨ i_y = 1 by omega) with rfl | rfl
            · skip
              refine lv_iload_n hx hb dX10_ledAt_0 rfl (lv_at hl 1 rfl) ?_
              refine lv_i2l (v := (1 : Int64)) hx hb dX10_ledAt_1 (by decide +kernel) ?_
              refine lv_lconst (v := 0) hx hb dX10_ledAt_2 rfl ?_
              refine lv_lconst (v := 1) hx hb dX10_ledAt_3 rfl ?_
              refine xj_i (wc := ([] : va_W)) (wr := (rW h cs gI gL gA gQ)) hP hD hS hA [] [0, 1, 2, 3, 4, 5, 6, 7, 8, 9, 10, 11, 12, 13, 14, 15, 16] rfl rfl (by decide) (by decide) (va_runS (As := [.long (1 : Int64), .long (0 : Int64), .long (1 : Int64)]) (rest := []) ⟨hx, hb, hml, hown, hts⟩ (a_X10_in_206 l dC dI h cs H.size I L A Q ) (va_cwS 3 hts gX10_ledAt_X10_in rfl rfl rfl (by decide +kernel) ⟨Nat.le_of_ble_eq_true rfl, Nat.le_of_ble_eq_true rfl⟩) (xpS (wc := ([] : va_W)) hP hD hK hN [] rfl (by decide) _) rfl rfl hl.1 rfl (lv_room (Nat.le_of_ble_eq_true rfl)) dX10_ledAt_4 ⟨Nat.zero_le _, Nat.zero_le _⟩) (fun r_119 u_118 H locs hw hP hD hS => ?_)
              obtain ⟨hf_120, rfl⟩ := hw
              have hP : va_P (dC, dI) vwCl (rW h cs gI gL gA gQ) H := hP
              have hD : va_D A0 (rW h cs gI gL gA gQ) := hD
              obtain rfl := hf_120
              refine lv_if_eq (tgt := 45) hx hb dX10_ledAt_7 (by decide) (fun c9 => False.elim (by revert c9; decide +kernel)) (fun _ => ?_)
              refine lv_aload_n hx hb dX10_ledAt_10 rfl (lv_at hl 0 rfl) ?_
              refine lv_iload_n hx hb dX10_ledAt_11 rfl (lv_at hl 3 rfl) ?_
              refine xj_i (wc := (wD_177 h cs gI gL gA gQ)) (wr := ([] : va_W)) hP hD hS hA [0, 1, 2, 3, 4, 5, 6, 7, 8, 9, 10, 11, 12, 13, 14, 15, 16] [] rfl rfl (by decide) (by decide) (va_runV (As := [.int (nI 1)]) (rest := []) ⟨hx, hb, hml, hown, hts⟩ (a_X10_isColumn_205 l dC dI h cs H.size gI gL gA gQ ) (cwV 1 hts gX10_ledAt_X10_isColumn rfl rfl rfl (by decide +kernel) ⟨Nat.le_of_ble_eq_true rfl, Nat.le_of_ble_eq_true rfl⟩) (xpV (wc := (wD_177 h cs gI gL gA gQ)) hP hD hK hN [0, 1, 2, 3, 4, 5, 6, 7, 8, 9, 10, 11, 12, 13, 14, 15, 16] rfl (by decide) 0 (ci := 10) rfl rfl _) rfl rfl hl.1 rfl (lv_room (Nat.le_of_ble_eq_true rfl)) dX10_ledAt_12 ⟨Nat.zero_le _, Nat.zero_le _⟩) (fun r_122 u_121 H locs hw hP hD hS => ?_)
              obtain ⟨hf_123, rfl⟩ := hw
              have hP : va_P (dC, dI) vwCl (rW h cs gI gL gA gQ) H := hP
              have hD : va_D A0 (rW h cs gI gL gA gQ) := hD
              obtain rfl := hf_123
              refine lv_if_eq (tgt := 45) hx hb dX10_ledAt_15 (by decide) (fun c9 => False.elim (by revert c9; decide +kernel)) (fun _ => ?_)
              refine lv_iload_n hx hb dX10_ledAt_18 rfl (lv_at hl 1 rfl) ?_
              refine lv_if_ne (tgt := 33) hx hb dX10_ledAt_19 (by decide) (fun _ => ?_) (fun c9 => False.elim (by revert c9; decide +kernel))
              refine lv_aload_n hx hb dX10_ledAt_33 rfl (lv_at hl 0 rfl) ?_
              refine lv_iload_n hx hb dX10_ledAt_34 rfl (lv_at hl 2 rfl) ?_
              refine xj_i (wc := (wD_177 h cs gI gL gA gQ)) (wr := ([] : va_W)) hP hD hS hA [0, 1, 2, 3, 4, 5, 6, 7, 8, 9, 10, 11, 12, 13, 14, 15, 16] [] rfl rfl (by decide) (by decide) (va_runV (As := [.int (nI 0)]) (rest := []) ⟨hx, hb, hml, hown, hts⟩ (a_X10_isColumn_200 l dC dI h cs H.size gI gL gA gQ ) (cwV 1 hts gX10_ledAt_X10_isColumn rfl rfl rfl (by decide +kernel) ⟨Nat.le_of_ble_eq_true rfl, Nat.le_of_ble_eq_true rfl⟩) (xpV (wc := (wD_177 h cs gI gL gA gQ)) hP hD hK hN [0, 1, 2, 3, 4, 5, 6, 7, 8, 9, 10, 11, 12, 13, 14, 15, 16] rfl (by decide) 0 (ci := 10) rfl rfl _) rfl rfl hl.1 rfl (lv_room (Nat.le_of_ble_eq_true rfl)) dX10_ledAt_35 ⟨Nat.zero_le _, Nat.zero_le _⟩) (fun r_125 u_124 H locs hw hP hD hS => ?_)
              obtain ⟨hf_126, rfl⟩ := hw
              have hP : va_P (dC, dI) vwCl (rW h cs gI gL gA gQ) H := hP
              have hD : va_D A0 (rW h cs gI gL gA gQ) := hD
              obtain rfl := hf_126
              refine lv_if_eq (tgt := 45) hx hb dX10_ledAt_38 (by decide) (fun c9 => False.elim (by revert c9; decide +kernel)) (fun _ => ?_)
              refine lv_iconst (v := nI 1) hx hb dX10_ledAt_41 (by decide) ?_
              refine lv_goto (tgt := 46) hx hb dX10_ledAt_42 (by decide) ?_
              refine lv_istore (lv' := [(4, .int (nI 1)), (0, .ref (h 0)), (1, .int (nI 1)), (2, .int (nI 0)), (3, .int (nI 1))]) hx hb dX10_ledAt_46 hl (by decide) rfl (fun ls hl => ?_)
              refine lv_iload hx hb dX10_ledAt_48 (lv_at hl 0 rfl) ?_
              refine lv_if_ne (tgt := 56) hx hb dX10_ledAt_50 (by decide) (fun _ => ?_) (fun c9 => False.elim (by revert c9; decide +kernel))
              refine lv_aload_n hx hb dX10_ledAt_56 rfl (lv_at hl 1 rfl) ?_
              refine xj_i (wc := (wD_177 h cs gI gL gA gQ)) (wr := ([] : va_W)) hP hD hS hA [0, 1, 2, 3, 4, 5, 6, 7, 8, 9, 10, 11, 12, 13, 14, 15, 16] [] rfl rfl (by decide) (by decide) (va_runV (As := []) (rest := []) ⟨hx, hb, hml, hown, hts⟩ (a_X10_lead_229 l dC dI h cs H.size gI gL gA gQ ) (cwV 0 hts gX10_ledAt_X10_lead rfl rfl rfl (by decide +kernel) ⟨Nat.le_of_ble_eq_true rfl, Nat.le_of_ble_eq_true rfl⟩) (xpV (wc := (wD_177 h cs gI gL gA gQ)) hP hD hK hN [0, 1, 2, 3, 4, 5, 6, 7, 8, 9, 10, 11, 12, 13, 14, 15, 16] rfl (by decide) 0 (ci := 10) rfl rfl _) rfl rfl hl.1 rfl (lv_room (Nat.le_of_ble_eq_true rfl)) dX10_ledAt_57 ⟨Nat.zero_le _, Nat.zero_le _⟩) (fun r_128 u_127 H locs hw hP hD hS => ?_)
              obtain ⟨hf_129, rfl⟩ := hw
              have hP : va_P (dC, dI) vwCl (rW h cs gI gL qA_210 gQ) H := hP
              have hD : va_D A0 (rW h cs gI gL qA_210 gQ) := hD
              obtain rfl := hf_129
              refine lv_istore (lv' := [(5, .int (nI 0)), (4, .int (nI 1)), (0, .ref (h 0)), (1, .int (nI 1)), (2, .int (nI 0)), (3, .int (nI 1))]) hx hb dX10_ledAt_60 hl (by decide) rfl (fun ls hl => ?_)
              refine lv_iload_n hx hb dX10_ledAt_62 rfl (lv_at hl 3 rfl) ?_
              refine lv_if_ne (tgt := 79) hx hb dX10_ledAt_63 (by decide) (fun _ => ?_) (fun c9 => False.elim (by revert c9; decide +kernel))
              refine lv_aload_n hx hb dX10_ledAt_79 rfl (lv_at hl 2 rfl) ?_
              refine va_get (D := (dC, dI)) (ci := 10) (v := .ref (h 18)) (C := RX10) (T := TX10) (N := 28) hx hb hts hinX10 hown hK hP 0 rfl rfl 18 (by decide) (hts (.fieldLink RX10 44 "MixedWordsModel" "trans" "[I") (by decide +kernel)) (fun _ h9 => h9) rfl dX10_ledAt_80 ?_
              refine lv_iconst (v := nI 4) hx hb dX10_ledAt_83 (by decide) ?_
              refine lv_iload_n hx hb dX10_ledAt_84 rfl (lv_at hl 4 rfl) ?_
              refine lv_imul hx hb dX10_ledAt_85 ?_
              refine xt_i (y := nI 0) (by decide +kernel) ?_
              refine lv_iload_n hx hb dX10_ledAt_86 rfl (lv_at hl 5 rfl) ?_
              refine lv_iadd hx hb dX10_ledAt_87 ?_
              refine xt_i (y := nI 1) (by decide +kernel) ?_
              refine xa_iald hx hb hK hP 9 0 rfl rfl (by omega) (by decide) dX10_ledAt_88 ?_
              refine xt_i (y := nI 0) (by decide +kernel) ?_
              exact xr_i (v := (nI 0)) hx hb hr hlocks hK hS dX10_ledAt_89 (gI, gL, qA_210, gQ) ⟨qA_210, (by decide +kernel), rfl⟩ hP hD
            · skip
              refine lv_iload_n hx hb dX10_ledAt_0 rfl (lv_at hl 1 rfl) ?_
              refine lv_i2l (v := (1 : Int64)) hx hb dX10_ledAt_1 (by decide +kernel) ?_
              refine lv_lconst (v := 0) hx hb dX10_ledAt_2 rfl ?_
              refine lv_lconst (v := 1) hx hb dX10_ledAt_3 rfl ?_
              refine xj_i (wc := ([] : va_W)) (wr := (rW h cs gI gL gA gQ)) hP hD hS hA [] [0, 1, 2, 3, 4, 5, 6, 7, 8, 9, 10, 11, 12, 13, 14, 15, 16] rfl rfl (by decide) (by decide) (va_runS (As := [.long (1 : Int64), .long (0 : Int64), .long (1 : Int64)]) (rest := []) ⟨hx, hb, hml, hown, hts⟩ (a_X10_in_206 l dC dI h cs H.size I L A Q ) (va_cwS 3 hts gX10_ledAt_X10_in rfl rfl rfl (by decide +kernel) ⟨Nat.le_of_ble_eq_true rfl, Nat.le_of_ble_eq_true rfl⟩) (xpS (wc := ([] : va_W)) hP hD hK hN [] rfl (by decide) _) rfl rfl hl.1 rfl (lv_room (Nat.le_of_ble_eq_true rfl)) dX10_ledAt_4 ⟨Nat.zero_le _, Nat.zero_le _⟩) (fun r_131 u_130 H locs hw hP hD hS => ?_)
              obtain ⟨hf_132, rfl⟩ := hw
              have hP : va_P (dC, dI) vwCl (rW h cs gI gL gA gQ) H := hP
              have hD : va_D A0 (rW h cs gI gL gA gQ) := hD
              obtain rfl := hf_132
              refine lv_if_eq (tgt := 45) hx hb dX10_ledAt_7 (by decide) (fun c9 => False.elim (by revert c9; decide +kernel)) (fun _ => ?_)
              refine lv_aload_n hx hb dX10_ledAt_10 rfl (lv_at hl 0 rfl) ?_
              refine lv_iload_n hx hb dX10_ledAt_11 rfl (lv_at hl 3 rfl) ?_
              refine xj_i (wc := (wD_177 h cs gI gL gA gQ)) (wr := ([] : va_W)) hP hD hS hA [0, 1, 2, 3, 4, 5, 6, 7, 8, 9, 10, 11, 12, 13, 14, 15, 16] [] rfl rfl (by decide) (by decide) (va_runV (As := [.int (nI 1)]) (rest := []) ⟨hx, hb, hml, hown, hts⟩ (a_X10_isColumn_205 l dC dI h cs H.size gI gL gA gQ ) (cwV 1 hts gX10_ledAt_X10_isColumn rfl rfl rfl (by decide +kernel) ⟨Nat.le_of_ble_eq_true rfl, Nat.le_of_ble_eq_true rfl⟩) (xpV (wc := (wD_177 h cs gI gL gA gQ)) hP hD hK hN [0, 1, 2, 3, 4, 5, 6, 7, 8, 9, 10, 11, 12, 13, 14, 15, 16] rfl (by decide) 0 (ci := 10) rfl rfl _) rfl rfl hl.1 rfl (lv_room (Nat.le_of_ble_eq_true rfl)) dX10_ledAt_12 ⟨Nat.zero_le _, Nat.zero_le _⟩) (fun r_134 u_133 H locs hw hP hD hS => ?_)
              obtain ⟨hf_135, rfl⟩ := hw
              have hP : va_P (dC, dI) vwCl (rW h cs gI gL gA gQ) H := hP
              have hD : va_D A0 (rW h cs gI gL gA gQ) := hD
              obtain rfl := hf_135
              refine lv_if_eq (tgt := 45) hx hb dX10_ledAt_15 (by decide) (fun c9 => False.elim (by revert c9; decide +kernel)) (fun _ => ?_)
              refine lv_iload_n hx hb dX10_ledAt_18 rfl (lv_at hl 1 rfl) ?_
              refine lv_if_ne (tgt := 33) hx hb dX10_ledAt_19 (by decide) (fun _ => ?_) (fun c9 => False.elim (by revert c9; decide +kernel))
              refine lv_aload_n hx hb dX10_ledAt_33 rfl (lv_at hl 0 rfl) ?_
              refine lv_iload_n hx hb dX10_ledAt_34 rfl (lv_at hl 2 rfl) ?_
              refine xj_i (wc := (wD_177 h cs gI gL gA gQ)) (wr := ([] : va_W)) hP hD hS hA [0, 1, 2, 3, 4, 5, 6, 7, 8, 9, 10, 11, 12, 13, 14, 15, 16] [] rfl rfl (by decide) (by decide) (va_runV (As := [.int (nI 1)]) (rest := []) ⟨hx, hb, hml, hown, hts⟩ (a_X10_isColumn_205 l dC dI h cs H.size gI gL gA gQ ) (cwV 1 hts gX10_ledAt_X10_isColumn rfl rfl rfl (by decide +kernel) ⟨Nat.le_of_ble_eq_true rfl, Nat.le_of_ble_eq_true rfl⟩) (xpV (wc := (wD_177 h cs gI gL gA gQ)) hP hD hK hN [0, 1, 2, 3, 4, 5, 6, 7, 8, 9, 10, 11, 12, 13, 14, 15, 16] rfl (by decide) 0 (ci := 10) rfl rfl _) rfl rfl hl.1 rfl (lv_room (Nat.le_of_ble_eq_true rfl)) dX10_ledAt_35 ⟨Nat.zero_le _, Nat.zero_le _⟩) (fun r_137 u_136 H locs hw hP hD hS => ?_)
              obtain ⟨hf_138, rfl⟩ := hw
              have hP : va_P (dC, dI) vwCl (rW h cs gI gL gA gQ) H := hP
              have hD : va_D A0 (rW h cs gI gL gA gQ) := hD
              obtain rfl := hf_138
              refine lv_if_eq (tgt := 45) hx hb dX10_ledAt_38 (by decide) (fun c9 => False.elim (by revert c9; decide +kernel)) (fun _ => ?_)
              refine lv_iconst (v := nI 1) hx hb dX10_ledAt_41 (by decide) ?_
              refine lv_goto (tgt := 46) hx hb dX10_ledAt_42 (by decide) ?_
              refine lv_istore (lv' := [(4, .int (nI 1)), (0, .ref (h 0)), (1, .int (nI 1)), (2, .int (nI 1)), (3, .int (nI 1))]) hx hb dX10_ledAt_46 hl (by decide) rfl (fun ls hl => ?_)
              refine lv_iload hx hb dX10_ledAt_48 (lv_at hl 0 rfl) ?_
              refine lv_if_ne (tgt := 56) hx hb dX10_ledAt_50 (by decide) (fun _ => ?_) (fun c9 => False.elim (by revert c9; decide +kernel))
              refine lv_aload_n hx hb dX10_ledAt_56 rfl (lv_at hl 1 rfl) ?_
              refine xj_i (wc := (wD_177 h cs gI gL gA gQ)) (wr := ([] : va_W)) hP hD hS hA [0, 1, 2, 3, 4, 5, 6, 7, 8, 9, 10, 11, 12, 13, 14, 15, 16] [] rfl rfl (by decide) (by decide) (va_runV (As := []) (rest := []) ⟨hx, hb, hml, hown, hts⟩ (a_X10_lead_229 l dC dI h cs H.size gI gL gA gQ ) (cwV 0 hts gX10_ledAt_X10_lead rfl rfl rfl (by decide +kernel) ⟨Nat.le_of_ble_eq_true rfl, Nat.le_of_ble_eq_true rfl⟩) (xpV (wc := (wD_177 h cs gI gL gA gQ)) hP hD hK hN [0, 1, 2, 3, 4, 5, 6, 7, 8, 9, 10, 11, 12, 13, 14, 15, 16] rfl (by decide) 0 (ci := 10) rfl rfl _) rfl rfl hl.1 rfl (lv_room (Nat.le_of_ble_eq_true rfl)) dX10_ledAt_57 ⟨Nat.zero_le _, Nat.zero_le _⟩) (fun r_140 u_139 H locs hw hP hD hS => ?_)
              obtain ⟨hf_141, rfl⟩ := hw
              have hP : va_P (dC, dI) vwCl (rW h cs gI gL qA_210 gQ) H := hP
              have hD : va_D A0 (rW h cs gI gL qA_210 gQ) := hD
              obtain rfl := hf_141
              refine lv_istore (lv' := [(5, .int (nI 0)), (4, .int (nI 1)), (0, .ref (h 0)), (1, .int (nI 1)), (2, .int (nI 1)), (3, .int (nI 1))]) hx hb dX10_ledAt_60 hl (by decide) rfl (fun ls hl => ?_)
              refine lv_iload_n hx hb dX10_ledAt_62 rfl (lv_at hl 3 rfl) ?_
              refine lv_if_ne (tgt := 79) hx hb dX10_ledAt_63 (by decide) (fun _ => ?_) (fun c9 => False.elim (by revert c9; decide +kernel))
              refine lv_aload_n hx hb dX10_ledAt_79 rfl (lv_at hl 2 rfl) ?_
              refine va_get (D := (dC, dI)) (ci := 10) (v := .ref (h 18)) (C := RX10) (T := TX10) (N := 28) hx hb hts hinX10 hown hK hP 0 rfl rfl 18 (by decide) (hts (.fieldLink RX10 44 "MixedWordsModel" "trans" "[I") (by decide +kernel)) (fun _ h9 => h9) rfl dX10_ledAt_80 ?_
              refine lv_iconst (v := nI 4) hx hb dX10_ledAt_83 (by decide) ?_
              refine lv_iload_n hx hb dX10_ledAt_84 rfl (lv_at hl 4 rfl) ?_
              refine lv_imul hx hb dX10_ledAt_85 ?_
              refine xt_i (y := nI 4) (by decide +kernel) ?_
              refine lv_iload_n hx hb dX10_ledAt_86 rfl (lv_at hl 5 rfl) ?_
              refine lv_iadd hx hb dX10_ledAt_87 ?_
              refine xt_i (y := nI 5) (by decide +kernel) ?_
              refine xa_iald hx hb hK hP 9 0 rfl rfl (by omega) (by decide) dX10_ledAt_88 ?_
              refine xt_i (y := nI 1) (by decide +kernel) ?_
              exact xr_i (v := (nI 1)) hx hb hr hlocks hK hS dX10_ledAt_89 (gI, gL, qA_210, gQ) ⟨qA_210, (by decide +kernel), rfl⟩ hP hD
          · skip
            refine lv_iload_n hx hb dX10_ledAt_0 rfl (lv_at hl 1 rfl) ?_
            refine lv_i2l (v := (1 : Int64)) hx hb dX10_ledAt_1 (by decide +kernel) ?_
            refine lv_lconst (v := 0) hx hb dX10_ledAt_2 rfl ?_
            refine lv_lconst (v := 1) hx hb dX10_ledAt_3 rfl ?_
            refine xj_i (wc := ([] : va_W)) (wr := (rW h cs gI gL gA gQ)) hP hD hS hA [] [0, 1, 2, 3, 4, 5, 6, 7, 8, 9, 10, 11, 12, 13, 14, 15, 16] rfl rfl (by decide) (by decide) (va_runS (As := [.long (1 : Int64), .long (0 : Int64), .long (1 : Int64)]) (rest := []) ⟨hx, hb, hml, hown, hts⟩ (a_X10_in_206 l dC dI h cs H.size I L A Q ) (va_cwS 3 hts gX10_ledAt_X10_in rfl rfl rfl (by decide +kernel) ⟨Nat.le_of_ble_eq_true rfl, Nat.le_of_ble_eq_true rfl⟩) (xpS (wc := ([] : va_W)) hP hD hK hN [] rfl (by decide) _) rfl rfl hl.1 rfl (lv_room (Nat.le_of_ble_eq_true rfl)) dX10_ledAt_4 ⟨Nat.zero_le _, Nat.zero_le _⟩) (fun r_143 u_142 H locs hw hP hD hS => ?_)
            obtain ⟨hf_144, rfl⟩ := hw
            have hP : va_P (dC, dI) vwCl (rW h cs gI gL gA gQ) H := hP
            have hD : va_D A0 (rW h cs gI gL gA gQ) := hD
            obtain rfl := hf_144
            refine lv_if_eq (tgt := 45) hx hb dX10_ledAt_7 (by decide) (fun c9 => False.elim (by revert c9; decide +kernel)) (fun _ => ?_)
            refine lv_aload_n hx hb dX10_ledAt_10 rfl (lv_at hl 0 rfl) ?_
            refine lv_iload_n hx hb dX10_ledAt_11 rfl (lv_at hl 3 rfl) ?_
            refine xj_i (wc := (wD_177 h cs gI gL gA gQ)) (wr := ([] : va_W)) hP hD hS hA [0, 1, 2, 3, 4, 5, 6, 7, 8, 9, 10, 11, 12, 13, 14, 15, 16] [] rfl rfl (by decide) (by decide) (va_runV (As := [.int (nI 1)]) (rest := []) ⟨hx, hb, hml, hown, hts⟩ (a_X10_isColumn_205 l dC dI h cs H.size gI gL gA gQ ) (cwV 1 hts gX10_ledAt_X10_isColumn rfl rfl rfl (by decide +kernel) ⟨Nat.le_of_ble_eq_true rfl, Nat.le_of_ble_eq_true rfl⟩) (xpV (wc := (wD_177 h cs gI gL gA gQ)) hP hD hK hN [0, 1, 2, 3, 4, 5, 6, 7, 8, 9, 10, 11, 12, 13, 14, 15, 16] rfl (by decide) 0 (ci := 10) rfl rfl _) rfl rfl hl.1 rfl (lv_room (Nat.le_of_ble_eq_true rfl)) dX10_ledAt_12 ⟨Nat.zero_le _, Nat.zero_le _⟩) (fun r_146 u_145 H locs hw hP hD hS => ?_)
            obtain ⟨hf_147, rfl⟩ := hw
            have hP : va_P (dC, dI) vwCl (rW h cs gI gL gA gQ) H := hP
            have hD : va_D A0 (rW h cs gI gL gA gQ) := hD
            obtain rfl := hf_147
            refine lv_if_eq (tgt := 45) hx hb dX10_ledAt_15 (by decide) (fun c9 => False.elim (by revert c9; decide +kernel)) (fun _ => ?_)
            refine lv_iload_n hx hb dX10_ledAt_18 rfl (lv_at hl 1 rfl) ?_
            refine lv_if_ne (tgt := 33) hx hb dX10_ledAt_19 (by decide) (fun _ => ?_) (fun c9 => False.elim (by revert c9; decide +kernel))
            refine lv_aload_n hx hb dX10_ledAt_33 rfl (lv_at hl 0 rfl) ?_
            refine lv_iload_n hx hb dX10_ledAt_34 rfl (lv_at hl 2 rfl) ?_
            refine xj_i (wc := (rW h cs gI gL gA gQ)) (wr := ([] : va_W)) hP hD hS hA [0, 1, 2, 3, 4, 5, 6, 7, 8, 9, 10, 11, 12, 13, 14, 15, 16] [] rfl rfl (by decide) (by decide) (va_runV (As := [.int y]) (rest := []) ⟨hx, hb, hml, hown, hts⟩ (k_X10_isColumn l dC dI h cs H.size gI gL gA gQ y 2 (by decide +kernel) (by first | assumption | omega) (by first | assumption | omega)) (cwV 1 hts gX10_ledAt_X10_isColumn rfl rfl rfl (by decide +kernel) ⟨Nat.le_of_ble_eq_true rfl, Nat.le_of_ble_eq_true rfl⟩) (xpV (wc := (rW h cs gI gL gA gQ)) hP hD hK hN [0, 1, 2, 3, 4, 5, 6, 7, 8, 9, 10, 11, 12, 13, 14, 15, 16] rfl (by decide) 0 (ci := 10) rfl rfl _) rfl rfl hl.1 rfl (lv_room (Nat.le_of_ble_eq_true rfl)) dX10_ledAt_35 ⟨Nat.zero_le _, Nat.zero_le _⟩) (fun r_149 u_148 H locs hw hP hD hS => ?_)
            obtain ⟨hf_150, rfl⟩ := hw
            have hP : va_P (dC, dI) vwCl (rW h cs gI gL gA gQ) H := hP
            have hD : va_D A0 (rW h cs gI gL gA gQ) := hD
            rcases hf_150 with ⟨rfl, i_151, hh_152, ee_153⟩ | ⟨rfl, -⟩
            · skip
              exact absurd (by rw [ee_153, nI_toInt (by omega)]; omega) hz_y
            · skip
              refine lv_if_eq (tgt := 45) hx hb dX10_ledAt_38 (by decide) (fun _ => ?_) (fun c9 => False.elim (by revert c9; decide +kernel))
              refine lv_iconst (v := nI 0) hx hb dX10_ledAt_45 (by decide) ?_
              refine lv_istore (lv' := [(4, .int (nI 0)), (0, .ref (h 0)), (1, .int (nI 1)), (2, .int y), (3, .int (nI 1))]) hx hb dX10_ledAt_46 hl (by decide) rfl (fun ls hl => ?_)
              refine lv_iload hx hb dX10_ledAt_48 (lv_at hl 0 rfl) ?_
              refine lv_if_ne (tgt := 56) hx hb dX10_ledAt_50 (by decide) (fun c9 => False.elim (by revert c9; decide +kernel)) (fun _ => ?_)
              refine lv_ldc (v := (-1000001)) hx hb hown (hts (.constant RX10 232 (-1000001)) (by decide +kernel)) dX10_ledAt_53 ?_
              exact xr_i (v := (-1000001 : Int32)) hx hb hr hlocks hK hS dX10_ledAt_55 (gI, gL, gA, gQ) ⟨gA, (by unfold an_ledAt; rw [if_neg (by omega)]), rfl⟩ hP hD
      · skip
        refine lv_iload_n hx hb dX10_ledAt_0 rfl (lv_at hl 1 rfl) ?_
        refine lv_i2l (v := (1 : Int64)) hx hb dX10_ledAt_1 (by decide +kernel) ?_
        refine lv_lconst (v := 0) hx hb dX10_ledAt_2 rfl ?_
        refine lv_lconst (v := 1) hx hb dX10_ledAt_3 rfl ?_
        refine xj_i (wc := ([] : va_W)) (wr := (rW h cs gI gL gA gQ)) hP hD hS hA [] [0, 1, 2, 3, 4, 5, 6, 7, 8, 9, 10, 11, 12, 13, 14, 15, 16] rfl rfl (by decide) (by decide) (va_runS (As := [.long (1 : Int64), .long (0 : Int64), .long (1 : Int64)]) (rest := []) ⟨hx, hb, hml, hown, hts⟩ (a_X10_in_206 l dC dI h cs H.size I L A Q ) (va_cwS 3 hts gX10_ledAt_X10_in rfl rfl rfl (by decide +kernel) ⟨Nat.le_of_ble_eq_true rfl, Nat.le_of_ble_eq_true rfl⟩) (xpS (wc := ([] : va_W)) hP hD hK hN [] rfl (by decide) _) rfl rfl hl.1 rfl (lv_room (Nat.le_of_ble_eq_true rfl)) dX10_ledAt_4 ⟨Nat.zero_le _, Nat.zero_le _⟩) (fun r_155 u_154 H locs hw hP hD hS => ?_)
        obtain ⟨hf_156, rfl⟩ := hw
        have hP : va_P (dC, dI) vwCl (rW h cs gI gL gA gQ) H := hP
        have hD : va_D A0 (rW h cs gI gL gA gQ) := hD
        obtain rfl := hf_156
        refine lv_if_eq (tgt := 45) hx hb dX10_ledAt_7 (by decide) (fun c9 => False.elim (by revert c9; decide +kernel)) (fun _ => ?_)
        refine lv_aload_n hx hb dX10_ledAt_10 rfl (lv_at hl 0 rfl) ?_
        refine lv_iload_n hx hb dX10_ledAt_11 rfl (lv_at hl 3 rfl) ?_
        refine xj_i (wc := (rW h cs gI gL gA gQ)) (wr := ([] : va_W)) hP hD hS hA [0, 1, 2, 3, 4, 5, 6, 7, 8, 9, 10, 11, 12, 13, 14, 15, 16] [] rfl rfl (by decide) (by decide) (va_runV (As := [.int z]) (rest := []) ⟨hx, hb, hml, hown, hts⟩ (k_X10_isColumn l dC dI h cs H.size gI gL gA gQ z 2 (by decide +kernel) (by first | assumption | omega) (by first | assumption | omega)) (cwV 1 hts gX10_ledAt_X10_isColumn rfl rfl rfl (by decide +kernel) ⟨Nat.le_of_ble_eq_true rfl, Nat.le_of_ble_eq_true rfl⟩) (xpV (wc := (rW h cs gI gL gA gQ)) hP hD hK hN [0, 1, 2, 3, 4, 5, 6, 7, 8, 9, 10, 11, 12, 13, 14, 15, 16] rfl (by decide) 0 (ci := 10) rfl rfl _) rfl rfl hl.1 rfl (lv_room (Nat.le_of_ble_eq_true rfl)) dX10_ledAt_12 ⟨Nat.zero_le _, Nat.zero_le _⟩) (fun r_158 u_157 H locs hw hP hD hS => ?_)
        obtain ⟨hf_159, rfl⟩ := hw
        have hP : va_P (dC, dI) vwCl (rW h cs gI gL gA gQ) H := hP
        have hD : va_D A0 (rW h cs gI gL gA gQ) := hD
        rcases hf_159 with ⟨rfl, i_160, hh_161, ee_162⟩ | ⟨rfl, -⟩
        · skip
          exact absurd (by rw [ee_162, nI_toInt (by omega)]; omega) hz_z
        · skip
          refine lv_if_eq (tgt := 45) hx hb dX10_ledAt_15 (by decide) (fun _ => ?_) (fun c9 => False.elim (by revert c9; decide +kernel))
          refine lv_iconst (v := nI 0) hx hb dX10_ledAt_45 (by decide) ?_
          refine lv_istore (lv' := [(4, .int (nI 0)), (0, .ref (h 0)), (1, .int (nI 1)), (2, .int y), (3, .int z)]) hx hb dX10_ledAt_46 hl (by decide) rfl (fun ls hl => ?_)
          refine lv_iload hx hb dX10_ledAt_48 (lv_at hl 0 rfl) ?_
          refine lv_if_ne (tgt := 56) hx hb dX10_ledAt_50 (by decide) (fun c9 => False.elim (by revert c9; decide +kernel)) (fun _ => ?_)
          refine lv_ldc (v := (-1000001)) hx hb hown (hts (.constant RX10 232 (-1000001)) (by decide +kernel)) dX10_ledAt_53 ?_
          exact xr_i (v := (-1000001 : Int32)) hx hb hr hlocks hK hS dX10_ledAt_55 (gI, gL, gA, gQ) ⟨gA, (by unfold an_ledAt; rw [if_neg (by omega)]), rfl⟩ hP hD
  · skip
    refine lv_iload_n hx hb dX10_ledAt_0 rfl (lv_at hl 1 rfl) ?_
    refine lv_i2l (v := x.toInt64) hx hb dX10_ledAt_1 rfl ?_
    refine lv_lconst (v := 0) hx hb dX10_ledAt_2 rfl ?_
    refine lv_lconst (v := 1) hx hb dX10_ledAt_3 rfl ?_
    refine xj_i (wc := ([] : va_W)) (wr := (rW h cs gI gL gA gQ)) hP hD hS hA [] [0, 1, 2, 3, 4, 5, 6, 7, 8, 9, 10, 11, 12, 13, 14, 15, 16] rfl rfl (by decide) (by decide) (va_runS (As := [.long x.toInt64, .long (0 : Int64), .long (1 : Int64)]) (rest := []) ⟨hx, hb, hml, hown, hts⟩ (k_X10_in l dC dI h cs H.size I L A Q x.toInt64 (0 : Int64) (1 : Int64)) (va_cwS 3 hts gX10_ledAt_X10_in rfl rfl rfl (by decide +kernel) ⟨Nat.le_of_ble_eq_true rfl, Nat.le_of_ble_eq_true rfl⟩) (xpS (wc := ([] : va_W)) hP hD hK hN [] rfl (by decide) _) rfl rfl hl.1 rfl (lv_room (Nat.le_of_ble_eq_true rfl)) dX10_ledAt_4 ⟨Nat.zero_le _, Nat.zero_le _⟩) (fun r_164 u_163 H locs hw hP hD hS => ?_)
    obtain ⟨hf_165, rfl⟩ := hw
    have hP : va_P (dC, dI) vwCl (rW h cs gI gL gA gQ) H := hP
    have hD : va_D A0 (rW h cs gI gL gA gQ) := hD
    rcases in_Z (a := 0) (b := 1) (by decide +kernel) (by decide +kernel) hf_165 with ⟨rfl, za_x, zb_x⟩ | ⟨rfl, -⟩
    · skip
      exact absurd hz_x (by omega)
    · skip
      refine lv_if_eq (tgt := 45) hx hb dX10_ledAt_7 (by decide) (fun _ => ?_) (fun c9 => False.elim (by revert c9; decide +kernel))
      refine lv_iconst (v := nI 0) hx hb dX10_ledAt_45 (by decide) ?_
      refine lv_istore (lv' := [(4, .int (nI 0)), (0, .ref (h 0)), (1, .int x), (2, .int y), (3, .int z)]) hx hb dX10_ledAt_46 hl (by decide) rfl (fun ls hl => ?_)
      refine lv_iload hx hb dX10_ledAt_48 (lv_at hl 0 rfl) ?_
      refine lv_if_ne (tgt := 56) hx hb dX10_ledAt_50 (by decide) (fun c9 => False.elim (by revert c9; decide +kernel)) (fun _ => ?_)
      refine lv_ldc (v := (-1000001)) hx hb hown (hts (.constant RX10 232 (-1000001)) (by decide +kernel)) dX10_ledAt_53 ?_
      exact xr_i (v := (-1000001 : Int32)) hx hb hr hlocks hK hS dX10_ledAt_55 (gI, gL, gA, gQ) ⟨gA, (by unfold an_ledAt; rw [if_neg (by omega)]), rfl⟩ hP hD
