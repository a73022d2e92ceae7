set_option maxRecDepth 20000 in
theorem ggX10_ledAt_X10_in : GoodIn wsX10_ledAt wsX10_in := goodIn_r _ [7] (by decide +kernel) (by decide +kernel)
set_option maxRecDepth 20000 in
theorem gX10_ledAt_X10_in : GoodIn wsX10_ledAt (va_wsS RX10 77 yX10_in wsX10_in) := goodIn_app (goodIn_of _ (by decide +kernel)) ggX10_ledAt_X10_in
set_option maxRecDepth 20000 in
theorem ggX10_ledAt_X10_isColumn : GoodIn wsX10_ledAt wsX10_isColumn := goodIn_r _ [11, 12, 4, 5, 6, 7, 38, 39, 40, 41, 42, 43, 44, 45, 46, 47, 48, 49, 50, 51, 52, 53, 54, 55, 56, 57, 58, 59, 60, 61, 62, 63, 64, 65] (by decide +kernel) (by decide +kernel)
set_option maxRecDepth 20000 in
theorem gX10_ledAt_X10_isColumn : GoodIn wsX10_ledAt (wsV RX10 90 RX10 yX10_isColumn wsX10_isColumn) := goodIn_app (goodIn_of _ (by decide +kernel)) ggX10_ledAt_X10_isColumn
set_option maxRecDepth 20000 in
theorem ggX10_ledAt_X10_isRow : GoodIn wsX10_ledAt wsX10_isRow := goodIn_r _ [16, 17, 4, 5, 6, 7, 38, 39, 40, 41, 42, 43, 44, 45, 46, 47, 48, 49, 50, 51, 52, 53, 54, 55, 56, 57, 58, 59, 60, 61, 62, 63, 64, 65] (by decide +kernel) (by decide +kernel)
set_option maxRecDepth 20000 in
theorem gX10_ledAt_X10_isRow : GoodIn wsX10_ledAt (wsV RX10 86 RX10 yX10_isRow wsX10_isRow) := goodIn_app (goodIn_of _ (by decide +kernel)) ggX10_ledAt_X10_isRow
set_option maxRecDepth 20000 in
theorem ggX10_ledAt_X10_lead : GoodIn wsX10_ledAt wsX10_lead := goodIn_r _ [21, 22, 23, 24, 6, 25, 2, 12, 17, 26, 3, 27, 28, 29, 30, 31, 32, 33, 34, 35, 36, 37, 38, 39, 40, 41, 42, 43, 44, 45, 46, 47, 48, 49, 50, 51, 52, 53, 54, 55, 56, 57, 58, 59, 60, 61, 62, 63, 64, 65] (by decide +kernel) (by decide +kernel)
set_option maxRecDepth 20000 in
theorem gX10_ledAt_X10_lead : GoodIn wsX10_ledAt (wsV RX10 229 RX10 yX10_lead wsX10_lead) := goodIn_app (goodIn_of _ (by decide +kernel)) ggX10_ledAt_X10_lead
theorem dX10_ledAt_0 : decode cX10_ledAt 0 = .ok (.iload_n 1, 1) := by decide +kernel
theorem dX10_ledAt_1 : decode cX10_ledAt 1 = .ok (.i2l, 1) := by decide +kernel
theorem dX10_ledAt_2 : decode cX10_ledAt 2 = .ok (.lconst 0, 1) := by decide +kernel
theorem dX10_ledAt_3 : decode cX10_ledAt 3 = .ok (.lconst 1, 1) := by decide +kernel
theorem dX10_ledAt_4 : decode cX10_ledAt 4 = .ok (.invokestatic 77, 3) := by decide +kernel
theorem dX10_ledAt_7 : decode cX10_ledAt 7 = .ok (.ifCond .eq 38, 3) := by decide +kernel
theorem dX10_ledAt_10 : decode cX10_ledAt 10 = .ok (.aload_n 0, 1) := by decide +kernel
theorem dX10_ledAt_11 : decode cX10_ledAt 11 = .ok (.iload_n 3, 1) := by decide +kernel
theorem dX10_ledAt_12 : decode cX10_ledAt 12 = .ok (.invokevirtual 90, 3) := by decide +kernel
theorem dX10_ledAt_15 : decode cX10_ledAt 15 = .ok (.ifCond .eq 30, 3) := by decide +kernel
theorem dX10_ledAt_18 : decode cX10_ledAt 18 = .ok (.iload_n 1, 1) := by decide +kernel
theorem dX10_ledAt_19 : decode cX10_ledAt 19 = .ok (.ifCond .ne 14, 3) := by decide +kernel
theorem dX10_ledAt_22 : decode cX10_ledAt 22 = .ok (.aload_n 0, 1) := by decide +kernel
theorem dX10_ledAt_23 : decode cX10_ledAt 23 = .ok (.iload_n 2, 1) := by decide +kernel
theorem dX10_ledAt_24 : decode cX10_ledAt 24 = .ok (.invokevirtual 86, 3) := by decide +kernel
theorem dX10_ledAt_27 : decode cX10_ledAt 27 = .ok (.ifCond .eq 18, 3) := by decide +kernel
theorem dX10_ledAt_30 : decode cX10_ledAt 30 = .ok (.goto 11, 3) := by decide +kernel
theorem dX10_ledAt_33 : decode cX10_ledAt 33 = .ok (.aload_n 0, 1) := by decide +kernel
theorem dX10_ledAt_34 : decode cX10_ledAt 34 = .ok (.iload_n 2, 1) := by decide +kernel
theorem dX10_ledAt_35 : decode cX10_ledAt 35 = .ok (.invokevirtual 90, 3) := by decide +kernel
theorem dX10_ledAt_38 : decode cX10_ledAt 38 = .ok (.ifCond .eq 7, 3) := by decide +kernel
theorem dX10_ledAt_41 : decode cX10_ledAt 41 = .ok (.iconst 1, 1) := by decide +kernel
theorem dX10_ledAt_42 : decode cX10_ledAt 42 = .ok (.goto 4, 3) := by decide +kernel
theorem dX10_ledAt_45 : decode cX10_ledAt 45 = .ok (.iconst 0, 1) := by decide +kernel
theorem dX10_ledAt_46 : decode cX10_ledAt 46 = .ok (.istore 4, 2) := by decide +kernel
theorem dX10_ledAt_48 : decode cX10_ledAt 48 = .ok (.iload 4, 2) := by decide +kernel
theorem dX10_ledAt_50 : decode cX10_ledAt 50 = .ok (.ifCond .ne 6, 3) := by decide +kernel
theorem dX10_ledAt_53 : decode cX10_ledAt 53 = .ok (.ldc 232, 2) := by decide +kernel
theorem dX10_ledAt_55 : decode cX10_ledAt 55 = .ok (.ireturn, 1) := by decide +kernel
theorem dX10_ledAt_56 : decode cX10_ledAt 56 = .ok (.aload_n 0, 1) := by decide +kernel
theorem dX10_ledAt_57 : decode cX10_ledAt 57 = .ok (.invokevirtual 229, 3) := by decide +kernel
theorem dX10_ledAt_60 : decode cX10_ledAt 60 = .ok (.istore 5, 2) := by decide +kernel
theorem dX10_ledAt_62 : decode cX10_ledAt 62 = .ok (.iload_n 1, 1) := by decide +kernel
theorem dX10_ledAt_63 : decode cX10_ledAt 63 = .ok (.ifCond .ne 16, 3) := by decide +kernel
theorem dX10_ledAt_66 : decode cX10_ledAt 66 = .ok (.aload_n 0, 1) := by decide +kernel
theorem dX10_ledAt_67 : decode cX10_ledAt 67 = .ok (.getfield 41, 3) := by decide +kernel
theorem dX10_ledAt_70 : decode cX10_ledAt 70 = .ok (.iconst 5, 1) := by decide +kernel
theorem dX10_ledAt_71 : decode cX10_ledAt 71 = .ok (.iload_n 3, 1) := by decide +kernel
theorem dX10_ledAt_72 : decode cX10_ledAt 72 = .ok (.imul, 1) := by decide +kernel
theorem dX10_ledAt_73 : decode cX10_ledAt 73 = .ok (.iload_n 2, 1) := by decide +kernel
theorem dX10_ledAt_74 : decode cX10_ledAt 74 = .ok (.iadd, 1) := by decide +kernel
theorem dX10_ledAt_75 : decode cX10_ledAt 75 = .ok (.iaload, 1) := by decide +kernel
theorem dX10_ledAt_76 : decode cX10_ledAt 76 = .ok (.goto 13, 3) := by decide +kernel
theorem dX10_ledAt_79 : decode cX10_ledAt 79 = .ok (.aload_n 0, 1) := by decide +kernel
theorem dX10_ledAt_80 : decode cX10_ledAt 80 = .ok (.getfield 44, 3) := by decide +kernel
theorem dX10_ledAt_83 : decode cX10_ledAt 83 = .ok (.iconst 4, 1) := by decide +kernel
theorem dX10_ledAt_84 : decode cX10_ledAt 84 = .ok (.iload_n 2, 1) := by decide +kernel
theorem dX10_ledAt_85 : decode cX10_ledAt 85 = .ok (.imul, 1) := by decide +kernel
theorem dX10_ledAt_86 : decode cX10_ledAt 86 = .ok (.iload_n 3, 1) := by decide +kernel
theorem dX10_ledAt_87 : decode cX10_ledAt 87 = .ok (.iadd, 1) := by decide +kernel
theorem dX10_ledAt_88 : decode cX10_ledAt 88 = .ok (.iaload, 1) := by decide +kernel
theorem dX10_ledAt_89 : decode cX10_ledAt 89 = .ok (.ireturn, 1) := by decide +kernel
set_option maxHeartbeats 4000000 in
set_option maxRecDepth 100000 in
theorem f_X10_ledAt (l : Launch) (dC : Nat → ClassId) (dI : Nat → Nat → Nat) (h : Nat → Nat) (cs : Nat → ClassId) (sz : Nat) (I : Nat → Int32) (L : Nat → Int64) (A : Nat → Nat → Int32) (Q : Nat → Nat → Int64) (x y z : Int32) : Met l yX10_ledAt wsX10_ledAt ({ frames := 2, cells := 0, slots := 0, locals := 46 }) (va_Pc [.ref (h 0), .int x, .int y, .int z] (xPre (dC, dI) (rW h cs gI gL gA gQ) (tysA cs) sz)) (va_Qi (fun (r : Int32) (u : RS) => (r = an_ledAt x y z) ∧ u = (gI, gL, gA, gQ)) (xB (dC, dI) (tysA cs) (va_A (rW h cs gI gL gA gQ) sz) (fun u : RS => rW h cs u.1 u.2.1 u.2.2.1 u.2.2.2)) (va_A (rW h cs gI gL gA gQ) sz)) 0 0 (va_A (rW h cs gI gL gA gQ) sz) := by
  refine Met.ofW (cc := cX10_ledAt) (maxL := 6) (ret := (some .int)) (by decide) rfl ?_
  intro p e s m args below meth c s₁ B hml hv
  obtain ⟨rfl, hsz, hP, hK, hD0, hN⟩ := hv
  have hx := B.exec
  have hb := B.bytes
  have hr := B.returns
  have hts := atoms_spec (ws := wsX10_ledAt) B.pre
  have hown : s.vm.findClass RX10 = some m.cls := findClass_of_methodNamed B.named
  have hlocks := B.notSynchronized
  subst hsz
  have hD := hD0.self (sz := s.heap.size)
  generalize hAe : va_A (rW h cs gI gL gA gQ) s.heap.size = A0 at hD ⊢
  have hA : ∀ q : Nat, s.heap.size ≤ q → A0 q := fun q h => by rw [← hAe]; exact Or.inr h
  have hl := lv_entry ([.ref (h 0), .int x, .int y, .int z]) (n := 6) (Nat.le_of_ble_eq_true rfl)
  rw [lg_entry_eq]
  generalize (lg_sl ([.ref (h 0), .int x, .int y, .int z]) ++ List.replicate (6 - (lg_sl ([.ref (h 0), .int x, .int y, .int z])).length) Slot.unset).toArray = ls at hl ⊢
  have hl : lv_has ls 6 [(0, .ref (h 0)), (1, .int x), (2, .int y), (3, .int z)] := hl
  generalize hH : s.heap = H at hP ⊢
  have hS : va_S A0 s.heap H [] := by rw [← hH]; exact va_S.rf
  have hinX10 : ∀ w ∈ wsX100, w ∈ wsX10_ledAt := by decide +kernel
  rcases splR x 0 1 (by decide) with ⟨i_x, h_x, g_x, rfl⟩ | hz_x
  · skip
    rcases (show i_x = 0 ∨ i_x = 1 by omega) with rfl | rfl
    · skip
      rcases splR z 0 1 (by decide) with ⟨i_z, h_z, g_z, rfl⟩ | hz_z
      · skip
        rcases (show i_z = 0 ∨ i_z = 1 by omega) with rfl | rfl
        · skip
          rcases splR y 0 1 (by decide) with ⟨i_y, h_y, g_y, rfl⟩ | hz_y
          · skip
            rcases (show i_y = 0 ∨ i_y = 1 by omega) with rfl | rfl
            · skip
              refine lv_iload_n hx hb dX10_ledAt_0 rfl (lv_at hl 1 rfl) ?_
              refine lv_i2l (v := (0 : Int64)) hx hb dX10_ledAt_1 (by decide +kernel) ?_
              refine lv_lconst (v := 0) hx hb dX10_ledAt_2 rfl ?_
              refine lv_lconst (v := 1) hx hb dX10_ledAt_3 rfl ?_
              refine xj_i (wc := ([] : va_W)) (wr := (rW h cs gI gL gA gQ)) hP hD hS hA [] [0, 1, 2, 3, 4, 5, 6, 7, 8, 9, 10, 11, 12, 13, 14, 15, 16] rfl rfl (by decide) (by decide) (va_runS (As := [.long (0 : Int64), .long (0 : Int64), .long (1 : Int64)]) (rest := []) ⟨hx, hb, hml, hown, hts⟩ (a_X10_in_190 l dC dI h cs H.size I L A Q ) (va_cwS 3 hts gX10_ledAt_X10_in rfl rfl rfl (by decide +kernel) ⟨Nat.le_of_ble_eq_true rfl, Nat.le_of_ble_eq_true rfl⟩) (xpS (wc := ([] : va_W)) hP hD hK hN [] rfl (by decide) _) rfl rfl hl.1 rfl (lv_room (Nat.le_of_ble_eq_true rfl)) dX10_ledAt_4 ⟨Nat.zero_le _, Nat.zero_le _⟩) (fun r_2 u_1 H locs hw hP hD hS => ?_)
              obtain ⟨hf_3, rfl⟩ := hw
              have hP : va_P (dC, dI) vwCl (rW h cs gI gL gA gQ) H := hP
              have hD : va_D A0 (rW h cs gI gL gA gQ) := hD
              rcases in_Z (a := 0) (b := 1) (by decide +kernel) (by decide +kernel) hf_3 with ⟨rfl, za_0 : Int64, zb_0 : Int64⟩ | ⟨rfl, -⟩
              · skip
                exact absurd hz_0 : Int64 (by omega)
              · skip
                refine lv_if_eq (tgt := 45) hx hb dX10_ledAt_7 (by decide) (fun _ => ?_) (fun c9 => False.elim (by revert c9; decide +kernel))
                refine lv_iconst (v := nI 0) hx hb dX10_ledAt_45 (by decide) ?_
                refine lv_istore (lv' := [(4, .int (nI 0)), (0, .ref (h 0)), (1, .int (nI 0)), (2, .int (nI 0)), (3, .int (nI 0))]) hx hb dX10_ledAt_46 hl (by decide) rfl (fun ls hl => ?_)
                refine lv_iload hx hb dX10_ledAt_48 (lv_at hl 0 rfl) ?_
                refine lv_if_ne (tgt := 56) hx hb dX10_ledAt_50 (by decide) (fun c9 => False.elim (by revert c9; decide +kernel)) (fun _ => ?_)
                refine lv_ldc (v := (-1000001)) hx hb hown (hts (.constant RX10 232 (-1000001)) (by decide +kernel)) dX10_ledAt_53 ?_
                exact xr_i (v := (-1000001 : Int32)) hx hb hr hlocks hK hS dX10_ledAt_55 (gI, gL, gA, gQ) ⟨(by decide +kernel), rfl⟩ hP hD
            · skip
              refine lv_iload_n hx hb dX10_ledAt_0 rfl (lv_at hl 1 rfl) ?_
              refine lv_i2l (v := (0 : Int64)) hx hb dX10_ledAt_1 (by decide +kernel) ?_
              refine lv_lconst (v := 0) hx hb dX10_ledAt_2 rfl ?_
              refine lv_lconst (v := 1) hx hb dX10_ledAt_3 rfl ?_
              refine xj_i (wc := ([] : va_W)) (wr := (rW h cs gI gL gA gQ)) hP hD hS hA [] [0, 1, 2, 3, 4, 5, 6, 7, 8, 9, 10, 11, 12, 13, 14, 15, 16] rfl rfl (by decide) (by decide) (va_runS (As := [.long (0 : Int64), .long (0 : Int64), .long (1 : Int64)]) (rest := []) ⟨hx, hb, hml, hown, hts⟩ (a_X10_in_190 l dC dI h cs H.size I L A Q ) (va_cwS 3 hts gX10_ledAt_X10_in rfl rfl rfl (by decide +kernel) ⟨Nat.le_of_ble_eq_true rfl, Nat.le_of_ble_eq_true rfl⟩) (xpS (wc := ([] : va_W)) hP hD hK hN [] rfl (by decide) _) rfl rfl hl.1 rfl (lv_room (Nat.le_of_ble_eq_true rfl)) dX10_ledAt_4 ⟨Nat.zero_le _, Nat.zero_le _⟩) (fun r_5 u_4 H locs hw hP hD hS => ?_)
              obtain ⟨hf_6, rfl⟩ := hw
              have hP : va_P (dC, dI) vwCl (rW h cs gI gL gA gQ) H := hP
              have hD : va_D A0 (rW h cs gI gL gA gQ) := hD
              rcases in_Z (a := 0) (b := 1) (by decide +kernel) (by decide +kernel) hf_6 with ⟨rfl, za_0 : Int64, zb_0 : Int64⟩ | ⟨rfl, -⟩
              · skip
                exact absurd hz_0 : Int64 (by omega)
              · skip
                refine lv_if_eq (tgt := 45) hx hb dX10_ledAt_7 (by decide) (fun _ => ?_) (fun c9 => False.elim (by revert c9; decide +kernel))
                refine lv_iconst (v := nI 0) hx hb dX10_ledAt_45 (by decide) ?_
                refine lv_istore (lv' := [(4, .int (nI 0)), (0, .ref (h 0)), (1, .int (nI 0)), (2, .int (nI 1)), (3, .int (nI 0))]) hx hb dX10_ledAt_46 hl (by decide) rfl (fun ls hl => ?_)
                refine lv_iload hx hb dX10_ledAt_48 (lv_at hl 0 rfl) ?_
                refine lv_if_ne (tgt := 56) hx hb dX10_ledAt_50 (by decide) (fun c9 => False.elim (by revert c9; decide +kernel)) (fun _ => ?_)
                refine lv_ldc (v := (-1000001)) hx hb hown (hts (.constant RX10 232 (-1000001)) (by decide +kernel)) dX10_ledAt_53 ?_
                exact xr_i (v := (-1000001 : Int32)) hx hb hr hlocks hK hS dX10_ledAt_55 (gI, gL, gA, gQ) ⟨(by decide +kernel), rfl⟩ hP hD
          · skip
            refine lv_iload_n hx hb dX10_ledAt_0 rfl (lv_at hl 1 rfl) ?_
            refine lv_i2l (v := (0 : Int64)) hx hb dX10_ledAt_1 (by decide +kernel) ?_
            refine lv_lconst (v := 0) hx hb dX10_ledAt_2 rfl ?_
            refine lv_lconst (v := 1) hx hb dX10_ledAt_3 rfl ?_
            refine xj_i (wc := ([] : va_W)) (wr := (rW h cs gI gL gA gQ)) hP hD hS hA [] [0, 1, 2, 3, 4, 5, 6, 7, 8, 9, 10, 11, 12, 13, 14, 15, 16] rfl rfl (by decide) (by decide) (va_runS (As := [.long (0 : Int64), .long (0 : Int64), .long (1 : Int64)]) (rest := []) ⟨hx, hb, hml, hown, hts⟩ (a_X10_in_190 l dC dI h cs H.size I L A Q ) (va_cwS 3 hts gX10_ledAt_X10_in rfl rfl rfl (by decide +kernel) ⟨Nat.le_of_ble_eq_true rfl, Nat.le_of_ble_eq_true rfl⟩) (xpS (wc := ([] : va_W)) hP hD hK hN [] rfl (by decide) _) rfl rfl hl.1 rfl (lv_room (Nat.le_of_ble_eq_true rfl)) dX10_ledAt_4 ⟨Nat.zero_le _, Nat.zero_le _⟩) (fun r_8 u_7 H locs hw hP hD hS => ?_)
            obtain ⟨hf_9, rfl⟩ := hw
            have hP : va_P (dC, dI) vwCl (rW h cs gI gL gA gQ) H := hP
            have hD : va_D A0 (rW h cs gI gL gA gQ) := hD
            rcases in_Z (a := 0) (b := 1) (by decide +kernel) (by decide +kernel) hf_9 with ⟨rfl, za_0 : Int64, zb_0 : Int64⟩ | ⟨rfl, -⟩
            · skip
              exact absurd hz_0 : Int64 (by omega)
            · skip
              refine lv_if_eq (tgt := 45) hx hb dX10_ledAt_7 (by decide) (fun _ => ?_) (fun c9 => False.elim (by revert c9; decide +kernel))
              refine lv_iconst (v := nI 0) hx hb dX10_ledAt_45 (by decide) ?_
              refine lv_istore (lv' := [(4, .int (nI 0)), (0, .ref (h 0)), (1, .int (nI 0)), (2, .int y), (3, .int (nI 0))]) hx hb dX10_ledAt_46 hl (by decide) rfl (fun ls hl => ?_)
              refine lv_iload hx hb dX10_ledAt_48 (lv_at hl 0 rfl) ?_
              refine lv_if_ne (tgt := 56) hx hb dX10_ledAt_50 (by decide) (fun c9 => False.elim (by revert c9; decide +kernel)) (fun _ => ?_)
              refine lv_ldc (v := (-1000001)) hx hb hown (hts (.constant RX10 232 (-1000001)) (by decide +kernel)) dX10_ledAt_53 ?_
              exact xr_i (v := (-1000001 : Int32)) hx hb hr hlocks hK hS dX10_ledAt_55 (gI, gL, gA, gQ) ⟨(by unfold an_ledAt; rw [if_neg (by omega)]), rfl⟩ hP hD
        · skip
          rcases splR y 0 1 (by decide) with ⟨i_y, h_y, g_y, rfl⟩ | hz_y
          · skip
            rcases (show i_y = 0 ∨ i_y = 1 by omega) with rfl | rfl
            · skip
              refine lv_iload_n hx hb dX10_ledAt_0 rfl (lv_at hl 1 rfl) ?_
              refine lv_i2l (v := (0 : Int64)) hx hb dX10_ledAt_1 (by decide +kernel) ?_
              refine lv_lconst (v := 0) hx hb dX10_ledAt_2 rfl ?_
              refine lv_lconst (v := 1) hx hb dX10_ledAt_3 rfl ?_
              refine xj_i (wc := ([] : va_W)) (wr := (rW h cs gI gL gA gQ)) hP hD hS hA [] [0, 1, 2, 3, 4, 5, 6, 7, 8, 9, 10, 11, 12, 13, 14, 15, 16] rfl rfl (by decide) (by decide) (va_runS (As := [.long (0 : Int64), .long (0 : Int64), .long (1 : Int64)]) (rest := []) ⟨hx, hb, hml, hown, hts⟩ (a_X10_in_190 l dC dI h cs H.size I L A Q ) (va_cwS 3 hts gX10_ledAt_X10_in rfl rfl rfl (by decide +kernel) ⟨Nat.le_of_ble_eq_true rfl, Nat.le_of_ble_eq_true rfl⟩) (xpS (wc := ([] : va_W)) hP hD hK hN [] rfl (by decide) _) rfl rfl hl.1 rfl (lv_room (Nat.le_of_ble_eq_true rfl)) dX10_ledAt_4 ⟨Nat.zero_le _, Nat.zero_le _⟩) (fun r_11 u_10 H locs hw hP hD hS => ?_)
              obtain ⟨hf_12, rfl⟩ := hw
              have hP : va_P (dC, dI) vwCl (rW h cs gI gL gA gQ) H := hP
              have hD : va_D A0 (rW h cs gI gL gA gQ) := hD
              rcases in_Z (a := 0) (b := 1) (by decide +kernel) (by decide +kernel) hf_12 with ⟨rfl, za_0 : Int64, zb_0 : Int64⟩ | ⟨rfl, -⟩
              · skip
                exact absurd hz_0 : Int64 (by omega)
              · skip
                refine lv_if_eq (tgt := 45) hx hb dX10_ledAt_7 (by decide) (fun _ => ?_) (fun c9 => False.elim (by revert c9; decide +kernel))
                refine lv_iconst (v := nI 0) hx hb dX10_ledAt_45 (by decide) ?_
                refine lv_istore (lv' := [(4, .int (nI 0)), (0, .ref (h 0)), (1, .int (nI 0)), (2, .int (nI 0)), (3, .int (nI 1))]) hx hb dX10_ledAt_46 hl (by decide) rfl (fun ls hl => ?_)
                refine lv_iload hx hb dX10_ledAt_48 (lv_at hl 0 rfl) ?_
                refine lv_if_ne (tgt := 56) hx hb dX10_ledAt_50 (by decide) (fun c9 => False.elim (by revert c9; decide +kernel)) (fun _ => ?_)
                refine lv_ldc (v := (-1000001)) hx hb hown (hts (.constant RX10 232 (-1000001)) (by decide +kernel)) dX10_ledAt_53 ?_
                exact xr_i (v := (-1000001 : Int32)) hx hb hr hlocks hK hS dX10_ledAt_55 (gI, gL, gA, gQ) ⟨(by decide +kernel), rfl⟩ hP hD
            · skip
              refine lv_iload_n hx hb dX10_ledAt_0 rfl (lv_at hl 1 rfl) ?_
              refine lv_i2l (v := (0 : Int64)) hx hb dX10_ledAt_1 (by decide +kernel) ?_
              refine lv_lconst (v := 0) hx hb dX10_ledAt_2 rfl ?_
              refine lv_lconst (v := 1) hx hb dX10_ledAt_3 rfl ?_
              refine xj_i (wc := ([] : va_W)) (wr := (rW h cs gI gL gA gQ)) hP hD hS hA [] [0, 1, 2, 3, 4, 5, 6, 7, 8, 9, 10, 11, 12, 13, 14, 15, 16] rfl rfl (by decide) (by decide) (va_runS (As := [.long (0 : Int64), .long (0 : Int64), .long (1 : Int64)]) (rest := []) ⟨hx, hb, hml, hown, hts⟩ (a_X10_in_190 l dC dI h cs H.size I L A Q ) (va_cwS 3 hts gX10_ledAt_X10_in rfl rfl rfl (by decide +kernel) ⟨Nat.le_of_ble_eq_true rfl, Nat.le_of_ble_eq_true rfl⟩) (xpS (wc := ([] : va_W)) hP hD hK hN [] rfl (by decide) _) rfl rfl hl.1 rfl (lv_room (Nat.le_of_ble_eq_true rfl)) dX10_ledAt_4 ⟨Nat.zero_le _, Nat.zero_le _⟩) (fun r_14 u_13 H locs hw hP hD hS => ?_)
              obtain ⟨hf_15, rfl⟩ := hw
              have hP : va_P (dC, dI) vwCl (rW h cs gI gL gA gQ) H := hP
              have hD : va_D A0 (rW h cs gI gL gA gQ) := hD
              rcases in_Z (a := 0) (b := 1) (by decide +kernel) (by decide +kernel) hf_15 with ⟨rfl, za_0 : Int64, zb_0 : Int64⟩ | ⟨rfl, -⟩
              · skip
                exact absurd hz_0 : Int64 (by omega)
              · skip
                refine lv_if_eq (tgt := 45) hx hb dX10_ledAt_7 (by decide) (fun _ => ?_) (fun c9 => False.elim (by revert c9; decide +kernel))
                refine lv_iconst (v := nI 0) hx hb dX10_ledAt_45 (by decide) ?_
                refine lv_istore (lv' := [(4, .int (nI 0)), (0, .ref (h 0)), (1, .int (nI 0)), (2, .int (nI 1)), (3, .int (nI 1))]) hx hb dX10_ledAt_46 hl (by decide) rfl (fun ls hl => ?_)
                refine lv_iload hx hb dX10_ledAt_48 (lv_at hl 0 rfl) ?_
                refine lv_if_ne (tgt := 56) hx hb dX10_ledAt_50 (by decide) (fun c9 => False.elim (by revert c9; decide +kernel)) (fun _ => ?_)
                refine lv_ldc (v := (-1000001)) hx hb hown (hts (.constant RX10 232 (-1000001)) (by decide +kernel)) dX10_ledAt_53 ?_
                exact xr_i (v := (-1000001 : Int32)) hx hb hr hlocks hK hS dX10_ledAt_55 (gI, gL, gA, gQ) ⟨(by decide +kernel), rfl⟩ hP hD
          · skip
            refine lv_iload_n hx hb dX10_ledAt_0 rfl (lv_at hl 1 rfl) ?_
            refine lv_i2l (v := (0 : Int64)) hx hb dX10_ledAt_1 (by decide +kernel) ?_
            refine lv_lconst (v := 0) hx hb dX10_ledAt_2 rfl ?_
            refine lv_lconst (v := 1) hx hb dX10_ledAt_3 rfl ?_
            refine xj_i (wc := ([] : va_W)) (wr := (rW h cs gI gL gA gQ)) hP hD hS hA [] [0, 1, 2, 3, 4, 5, 6, 7, 8, 9, 10, 11, 12, 13, 14, 15, 16] rfl rfl (by decide) (by decide) (va_runS (As := [.long (0 : Int64), .long (0 : Int64), .long (1 : Int64)]) (rest := []) ⟨hx, hb, hml, hown, hts⟩ (a_X10_in_190 l dC dI h cs H.size I L A Q ) (va_cwS 3 hts gX10_ledAt_X10_in rfl rfl rfl (by decide +kernel) ⟨Nat.le_of_ble_eq_true rfl, Nat.le_of_ble_eq_true rfl⟩) (xpS (wc := ([] : va_W)) hP hD hK hN [] rfl (by decide) _) rfl rfl hl.1 rfl (lv_room (Nat.le_of_ble_eq_true rfl)) dX10_ledAt_4 ⟨Nat.zero_le _, Nat.zero_le _⟩) (fun r_17 u_16 H locs hw hP hD hS => ?_)
            obtain ⟨hf_18, rfl⟩ := hw
            have hP : va_P (dC, dI) vwCl (rW h cs gI gL gA gQ) H := hP
            have hD : va_D A0 (rW h cs gI gL gA gQ) := hD
            rcases in_Z (a := 0) (b := 1) (by decide +kernel) (by decide +kernel) hf_18 with ⟨rfl, za_0 : Int64, zb_0 : Int64⟩ | ⟨rfl, -⟩
            · skip
              exact absurd hz_0 : Int64 (by omega)
            · skip
              refine lv_if_eq (tgt := 45) hx hb dX10_ledAt_7 (by decide) (fun _ => ?_) (fun c9 => False.elim (by revert c9; decide +kernel))
              refine lv_iconst (v := nI 0) hx hb dX10_ledAt_45 (by decide) ?_
              refine lv_istore (lv' := [(4, .int (nI 0)), (0, .ref (h 0)), (1, .int (nI 0)), (2, .int y), (3, .int (nI 1))]) hx hb dX10_ledAt_46 hl (by decide) rfl (fun ls hl => ?_)
              refine lv_iload hx hb dX10_ledAt_48 (lv_at hl 0 rfl) ?_
              refine lv_if_ne (tgt := 56) hx hb dX10_ledAt_50 (by decide) (fun c9 => False.elim (by revert c9; decide +kernel)) (fun _ => ?_)
              refine lv_ldc (v := (-1000001)) hx hb hown (hts (.constant RX10 232 (-1000001)) (by decide +kernel)) dX10_ledAt_53 ?_
              exact xr_i (v := (-1000001 : Int32)) hx hb hr hlocks hK hS dX10_ledAt_55 (gI, gL, gA, gQ) ⟨(by unfold an_ledAt; rw [if_neg (by omega)]), rfl⟩ hP hD
      · skip
        refine lv_iload_n hx hb dX10_ledAt_0 rfl (lv_at hl 1 rfl) ?_
        refine lv_i2l (v := (0 : Int64)) hx hb dX10_ledAt_1 (by decide +kernel) ?_
        refine lv_lconst (v := 0) hx hb dX10_ledAt_2 rfl ?_
        refine lv_lconst (v := 1) hx hb dX10_ledAt_3 rfl ?_
        refine xj_i (wc := ([] : va_W)) (wr := (rW h cs gI gL gA gQ)) hP hD hS hA [] [0, 1, 2, 3, 4, 5, 6, 7, 8, 9, 10, 11, 12, 13, 14, 15, 16] rfl rfl (by decide) (by decide) (va_runS (As := [.long (0 : Int64), .long (0 : Int64), .long (1 : Int64)]) (rest := []) ⟨hx, hb, hml, hown, hts⟩ (a_X10_in_190 l dC dI h cs H.size I L A Q ) (va_cwS 3 hts gX10_ledAt_X10_in rfl rfl rfl (by decide +kernel) ⟨Nat.le_of_ble_eq_true rfl, Nat.le_of_ble_eq_true rfl⟩) (xpS (wc := ([] : va_W)) hP hD hK hN [] rfl (by decide) _) rfl rfl hl.1 rfl (lv_room (Nat.le_of_ble_eq_true rfl)) dX10_ledAt_4 ⟨Nat.zero_le _, Nat.zero_le _⟩) (fun r_20 u_19 H locs hw hP hD hS => ?_)
        obtain ⟨hf_21, rfl⟩ := hw
        have hP : va_P (dC, dI) vwCl (rW h cs gI gL gA gQ) H := hP
        have hD : va_D A0 (rW h cs gI gL gA gQ) := hD
        rcases in_Z (a := 0) (b := 1) (by decide +kernel) (by decide +kernel) hf_21 with ⟨rfl, za_0 : Int64, zb_0 : Int64⟩ | ⟨rfl, -⟩
        · skip
          exact absurd hz_0 : Int64 (by omega)
        · skip
          refine lv_if_eq (tgt := 45) hx hb dX10_ledAt_7 (by decide) (fun _ => ?_) (fun c9 => False.elim (by revert c9; decide +kernel))
          refine lv_iconst (v := nI 0) hx hb dX10_ledAt_45 (by decide) ?_
          refine lv_istore (lv' := [(4, .int (nI 0)), (0, .ref (h 0)), (1, .int (nI 0)), (2, .int y), (3, .int z)]) hx hb dX10_ledAt_46 hl (by decide) rfl (fun ls hl => ?_)
          refine lv_iload hx hb dX10_ledAt_48 (lv_at hl 0 rfl) ?_
          refine lv_if_ne (tgt := 56) hx hb dX10_ledAt_50 (by decide) (fun c9 => False.elim (by revert c9; decide +kernel)) (fun _ => ?_)
          refine lv_ldc (v := (-1000001)) hx hb hown (hts (.constant RX10 232 (-1000001)) (by decide +kernel)) dX10_ledAt_53 ?_
          exact xr_i (v := (-1000001 : Int32)) hx hb hr hlocks hK hS dX10_ledAt_55 (gI, gL, gA, gQ) ⟨(by unfold an_ledAt; rw [if_neg (by omega)]), rfl⟩ hP hD
    · skip
      rcases splR z 0 1 (by decide) with ⟨i_z, h_z, g_z, rfl⟩ | hz_z
      · skip
        rcases (show i_z = 0 ∨ i_z = 1 by omega) with rfl | rfl
        · skip
          rcases splR y 0 1 (by decide) with ⟨i_y, h_y, g_y, rfl⟩ | hz_y
          · skip
            rcases (show i_y = 0 ∨ i_y = 1 by omega) with rfl | rfl
            · skip
              refine lv_iload_n hx hb dX10_ledAt_0 rfl (lv_at hl 1 rfl) ?_
              refine lv_i2l (v := (1 : Int64)) hx hb dX10_ledAt_1 (by decide +kernel) ?_
              refine lv_lconst (v := 0) hx hb dX10_ledAt_2 rfl ?_
              refine lv_lconst (v := 1) hx hb dX10_ledAt_3 rfl ?_
              refine xj_i (wc := ([] : va_W)) (wr := (rW h cs gI gL gA gQ)) hP hD hS hA [] [0, 1, 2, 3, 4, 5, 6, 7, 8, 9, 10, 11, 12, 13, 14, 15, 16] rfl rfl (by decide) (by decide) (va_runS (As := [.long (1 : Int64), .long (0 : Int64), .long (1 : Int64)]) (rest := []) ⟨hx, hb, hml, hown, hts⟩ (a_X10_in_193 l dC dI h cs H.size I L A Q ) (va_cwS 3 hts gX10_ledAt_X10_in rfl rfl rfl (by decide +kernel) ⟨Nat.le_of_ble_eq_true rfl, Nat.le_of_ble_eq_true rfl⟩) (xpS (wc := ([] : va_W)) hP hD hK hN [] rfl (by decide) _) rfl rfl hl.1 rfl (lv_room (Nat.le_of_ble_eq_true rfl)) dX10_ledAt_4 ⟨Nat.zero_le _, Nat.zero_le _⟩) (fun r_23 u_22 H locs hw hP hD hS => ?_)
              obtain ⟨hf_24, rfl⟩ := hw
              have hP : va_P (dC, dI) vwCl (rW h cs gI gL gA gQ) H := hP
              have hD : va_D A0 (rW h cs gI gL gA gQ) := hD
              rcases in_Z (a := 0) (b := 1) (by decide +kernel) (by decide +kernel) hf_24 with ⟨rfl, za_1 : Int64, zb_1 : Int64⟩ | ⟨rfl, -⟩
              · skip
                exact absurd hz_1 : Int64 (by omega)
              · skip
                refine lv_if_eq (tgt := 45) hx hb dX10_ledAt_7 (by decide) (fun _ => ?_) (fun c9 => False.elim (by revert c9; decide +kernel))
                refine lv_iconst (v := nI 0) hx hb dX10_ledAt_45 (by decide) ?_
                refine lv_istore (lv' := [(4, .int (nI 0)), (0, .ref (h 0)), (1, .int (nI 1)), (2, .int (nI 0)), (3, .int (nI 0))]) hx hb dX10_ledAt_46 hl (by decide) rfl (fun ls hl => ?_)
                refine lv_iload hx hb dX10_ledAt_48 (lv_at hl 0 rfl) ?_
                refine lv_if_ne (tgt := 56) hx hb dX10_ledAt_50 (by decide) (fun c9 => False.elim (by revert c9; decide +kernel)) (fun _ => ?_)
                refine lv_ldc (v := (-1000001)) hx hb hown (hts (.constant RX10 232 (-1000001)) (by decide +kernel)) dX10_ledAt_53 ?_
                exact xr_i (v := (-1000001 : Int32)) hx hb hr hlocks hK hS dX10_ledAt_55 (gI, gL, gA, gQ) ⟨(by decide +kernel), rfl⟩ hP hD
            · skip
              refine lv_iload_n hx hb dX10_ledAt_0 rfl (lv_at hl 1 rfl) ?_
              refine lv_i2l (v := (1 : Int64)) hx hb dX10_ledAt_1 (by decide +kernel) ?_
              refine lv_lconst (v := 0) hx hb dX10_ledAt_2 rfl ?_
              refine lv_lconst (v := 1) hx hb dX10_ledAt_3 rfl ?_
              refine xj_i (wc := ([] : va_W)) (wr := (rW h cs gI gL gA gQ)) hP hD hS hA [] [0, 1, 2, 3, 4, 5, 6, 7, 8, 9, 10, 11, 12, 13, 14, 15, 16] rfl rfl (by decide) (by decide) (va_runS (As := [.long (1 : Int64), .long (0 : Int64), .long (1 : Int64)]) (rest := []) ⟨hx, hb, hml, hown, hts⟩ (a_X10_in_193 l dC dI h cs H.size I L A Q ) (va_cwS 3 hts gX10_ledAt_X10_in rfl rfl rfl (by decide +kernel) ⟨Nat.le_of_ble_eq_true rfl, Nat.le_of_ble_eq_true rfl⟩) (xpS (wc := ([] : va_W)) hP hD hK hN [] rfl (by decide) _) rfl rfl hl.1 rfl (lv_room (Nat.le_of_ble_eq_true rfl)) dX10_ledAt_4 ⟨Nat.zero_le _, Nat.zero_le _⟩) (fun r_26 u_25 H locs hw hP hD hS => ?_)
              obtain ⟨hf_27, rfl⟩ := hw
              have hP : va_P (dC, dI) vwCl (rW h cs gI gL gA gQ) H := hP
              have hD : va_D A0 (rW h cs gI gL gA gQ) := hD
              rcases in_Z (a := 0) (b := 1) (by decide +kernel) (by decide +kernel) hf_27 with ⟨rfl, za_1 : Int64, zb_1 : Int64⟩ | ⟨rfl, -⟩
              · skip
                exact absurd hz_1 : Int64 (by omega)
              · skip
                refine lv_if_eq (tgt := 45) hx hb dX10_ledAt_7 (by decide) (fun _ => ?_) (fun c9 => False.elim (by revert c9; decide +kernel))
                refine lv_iconst (v := nI 0) hx hb dX10_ledAt_45 (by decide) ?_
                refine lv_istore (lv' := [(4, .int (nI 0)), (0, .ref (h 0)), (1, .int (nI 1)), (2, .int (nI 1)), (3, .int (nI 0))]) hx hb dX10_ledAt_46 hl (by decide) rfl (fun ls hl => ?_)
                refine lv_iload hx hb dX10_ledAt_48 (lv_at hl 0 rfl) ?_
                refine lv_if_ne (tgt := 56) hx hb dX10_ledAt_50 (by decide) (fun c9 => False.elim (by revert c9; decide +kernel)) (fun _ => ?_)
                refine lv_ldc (v := (-1000001)) hx hb hown (hts (.constant RX10 232 (-1000001)) (by decide +kernel)) dX10_ledAt_53 ?_
                exact xr_i (v := (-1000001 : Int32)) hx hb hr hlocks hK hS dX10_ledAt_55 (gI, gL, gA, gQ) ⟨(by decide +kernel), rfl⟩ hP hD
          · skip
            refine lv_iload_n hx hb dX10_ledAt_0 rfl (lv_at hl 1 rfl) ?_
            refine lv_i2l (v := (1 : Int64)) hx hb dX10_ledAt_1 (by decide +kernel) ?_
            refine lv_lconst (v := 0) hx hb dX10_ledAt_2 rfl ?_
            refine lv_lconst (v := 1) hx hb dX10_ledAt_3 rfl ?_
            refine xj_i (wc := ([] : va_W)) (wr := (rW h cs gI gL gA gQ)) hP hD hS hA [] [0, 1, 2, 3, 4, 5, 6, 7, 8, 9, 10, 11, 12, 13, 14, 15, 16] rfl rfl (by decide) (by decide) (va_runS (As := [.long (1 : Int64), .long (0 : Int64), .long (1 : Int64)]) (rest := []) ⟨hx, hb, hml, hown, hts⟩ (a_X10_in_193 l dC dI h cs H.size I L A Q ) (va_cwS 3 hts gX10_ledAt_X10_in rfl rfl rfl (by decide +kernel) ⟨Nat.le_of_ble_eq_true rfl, Nat.le_of_ble_eq_true rfl⟩) (xpS (wc := ([] : va_W)) hP hD hK hN [] rfl (by decide) _) rfl rfl hl.1 rfl (lv_room (Nat.le_of_ble_eq_true rfl)) dX10_ledAt_4 ⟨Nat.zero_le _, Nat.zero_le _⟩) (fun r_29 u_28 H locs hw hP hD hS => ?_)
            obtain ⟨hf_30, rfl⟩ := hw
            have hP : va_P (dC, dI) vwCl (rW h cs gI gL gA gQ) H := hP
            have hD : va_D A0 (rW h cs gI gL gA gQ) := hD
            rcases in_Z (a := 0) (b := 1) (by decide +kernel) (by decide +kernel) hf_30 with ⟨rfl, za_1 : Int64, zb_1 : Int64⟩ | ⟨rfl, -⟩
            · skip
              exact absurd hz_1 : Int64 (by omega)
            · skip
              refine lv_if_eq (tgt := 45) hx hb dX10_ledAt_7 (by decide) (fun _ => ?_) (fun c9 => False.elim (by revert c9; decide +kernel))
              refine lv_iconst (v := nI 0) hx hb dX10_ledAt_45 (by decide) ?_
              refine lv_istore (lv' := [(4, .int (nI 0)), (0, .ref (h 0)), (1, .int (nI 1)), (2, .int y), (3, .int (nI 0))]) hx hb dX10_ledAt_46 hl (by decide) rfl (fun ls hl => ?_)
              refine lv_iload hx hb dX10_ledAt_48 (lv_at hl 0 rfl) ?_
              refine lv_if_ne (tgt := 56) hx hb dX10_ledAt_50 (by decide) (fun c9 => False.elim (by revert c9; decide +kernel)) (fun _ => ?_)
              refine lv_ldc (v := (-1000001)) hx hb hown (hts (.constant RX10 232 (-1000001)) (by decide +kernel)) dX10_ledAt_53 ?_
              exact xr_i (v := (-1000001 : Int32)) hx hb hr hlocks hK hS dX10_ledAt_55 (gI, gL, gA, gQ) ⟨(by unfold an_ledAt; rw [if_neg (by omega)]), rfl⟩ hP hD
        · skip
          rcases splR y 0 1 (by decide) with ⟨i_y, h_y, g_y, rfl⟩ | hz_y
          · skip
            rcases (show i_y = 0 ∨ i_y = 1 by omega) with rfl | rfl
            · skip
              refine lv_iload_n hx hb dX10_ledAt_0 rfl (lv_at hl 1 rfl) ?_
              refine lv_i2l (v := (1 : Int64)) hx hb dX10_ledAt_1 (by decide +kernel) ?_
              refine lv_lconst (v := 0) hx hb dX10_ledAt_2 rfl ?_
              refine lv_lconst (v := 1) hx hb dX10_ledAt_3 rfl ?_
              refine xj_i (wc := ([] : va_W)) (wr := (rW h cs gI gL gA gQ)) hP hD hS hA [] [0, 1, 2, 3, 4, 5, 6, 7, 8, 9, 10, 11, 12, 13, 14, 15, 16] rfl rfl (by decide) (by decide) (va_runS (As := [.long (1 : Int64), .long (0 : Int64), .long (1 : Int64)]) (rest := []) ⟨hx, hb, hml, hown, hts⟩ (a_X10_in_193 l dC dI h cs H.size I L A Q ) (va_cwS 3 hts gX10_ledAt_X10_in rfl rfl rfl (by decide +kernel) ⟨Nat.le_of_ble_eq_true rfl, Nat.le_of_ble_eq_true rfl⟩) (xpS (wc := ([] : va_W)) hP hD hK hN [] rfl (by decide) _) rfl rfl hl.1 rfl (lv_room (Nat.le_of_ble_eq_true rfl)) dX10_ledAt_4 ⟨Nat.zero_le _, Nat.zero_le _⟩) (fun r_32 u_31 H locs hw hP hD hS => ?_)
              obtain ⟨hf_33, rfl⟩ := hw
              have hP : va_P (dC, dI) vwCl (rW h cs gI gL gA gQ) H := hP
              have hD : va_D A0 (rW h cs gI gL gA gQ) := hD
              rcases in_Z (a := 0) (b := 1) (by decide +kernel) (by decide +kernel) hf_33 with ⟨rfl, za_1 : Int64, zb_1 : Int64⟩ | ⟨rfl, -⟩
              · skip
                exact absurd hz_1 : Int64 (by omega)
              · skip
                refine lv_if_eq (tgt := 45) hx hb dX10_ledAt_7 (by decide) (fun _ => ?_) (fun c9 => False.elim (by revert c9; decide +kernel))
                refine lv_iconst (v := nI 0) hx hb dX10_ledAt_45 (by decide) ?_
                refine lv_istore (lv' := [(4, .int (nI 0)), (0, .ref (h 0)), (1, .int (nI 1)), (2, .int (nI 0)), (3, .int (nI 1))]) hx hb dX10_ledAt_46 hl (by decide) rfl (fun ls hl => ?_)
                refine lv_iload hx hb dX10_ledAt_48 (lv_at hl 0 rfl) ?_
                refine lv_if_ne (tgt := 56) hx hb dX10_ledAt_50 (by decide) (fun c9 => False.elim (by revert c9; decide +kernel)) (fun _ => ?_)
                refine lv_ldc (v := (-1000001)) hx hb hown (hts (.constant RX10 232 (-1000001)) (by decide +kernel)) dX10_ledAt_53 ?_
                exact xr_i (v := (-1000001 : Int32)) hx hb hr hlocks hK hS dX10_ledAt_55 (gI, gL, gA, gQ) ⟨(by decide +kernel), rfl⟩ hP hD
            · skip
              refine lv_iload_n hx hb dX10_ledAt_0 rfl (lv_at hl 1 rfl) ?_
              refine lv_i2l (v := (1 : Int64)) hx hb dX10_ledAt_1 (by decide +kernel) ?_
              refine lv_lconst (v := 0) hx hb dX10_ledAt_2 rfl ?_
              refine lv_lconst (v := 1) hx hb dX10_ledAt_3 rfl ?_
              refine xj_i (wc := ([] : va_W)) (wr := (rW h cs gI gL gA gQ)) hP hD hS hA [] [0, 1, 2, 3, 4, 5, 6, 7, 8, 9, 10, 11, 12, 13, 14, 15, 16] rfl rfl (by decide) (by decide) (va_runS (As := [.long (1 : Int64), .long (0 : Int64), .long (1 : Int64)]) (rest := []) ⟨hx, hb, hml, hown, hts⟩ (a_X10_in_193 l dC dI h cs H.size I L A Q ) (va_cwS 3 hts gX10_ledAt_X10_in rfl rfl rfl (by decide +kernel) ⟨Nat.le_of_ble_eq_true rfl, Nat.le_of_ble_eq_true rfl⟩) (xpS (wc := ([] : va_W)) hP hD hK hN [] rfl (by decide) _) rfl rfl hl.1 rfl (lv_room (Nat.le_of_ble_eq_true rfl)) dX10_ledAt_4 ⟨Nat.zero_le _, Nat.zero_le _⟩) (fun r_35 u_34 H locs hw hP hD hS => ?_)
              obtain ⟨hf_36, rfl⟩ := hw
              have hP : va_P (dC, dI) vwCl (rW h cs gI gL gA gQ) H := hP
              have hD : va_D A0 (rW h cs gI gL gA gQ) := hD
              rcases in_Z (a := 0) (b := 1) (by decide +kernel) (by decide +kernel) hf_36 with ⟨rfl, za_1 : Int64, zb_1 : Int64⟩ | ⟨rfl, -⟩
              · skip
                exact absurd hz_1 : Int64 (by omega)
              · skip
                refine lv_if_eq (tgt := 45) hx hb dX10_ledAt_7 (by decide) (fun _ => ?_) (fun c9 => False.elim (by revert c9; decide +kernel))
                refine lv_iconst (v := nI 0) hx hb dX10_ledAt_45 (by decide) ?_
                refine lv_istore (lv' := [(4, .int (nI 0)), (0, .ref (h 0)), (1, .int (nI 1)), (2, .int (nI 1)), (3, .int (nI 1))]) hx hb dX10_ledAt_46 hl (by decide) rfl (fun ls hl => ?_)
                refine lv_iload hx hb dX10_ledAt_48 (lv_at hl 0 rfl) ?_
                refine lv_if_ne (tgt := 56) hx hb dX10_ledAt_50 (by decide) (fun c9 => False.elim (by revert c9; decide +kernel)) (fun _ => ?_)
                refine lv_ldc (v := (-1000001)) hx hb hown (hts (.constant RX10 232 (-1000001)) (by decide +kernel)) dX10_ledAt_53 ?_
                exact xr_i (v := (-1000001 : Int32)) hx hb hr hlocks hK hS dX10_ledAt_55 (gI, gL, gA, gQ) ⟨(by decide +kernel), rfl⟩ hP hD
          · skip
            refine lv_iload_n hx hb dX10_ledAt_0 rfl (lv_at hl 1 rfl) ?_
            refine lv_i2l (v := (1 : Int64)) hx hb dX10_ledAt_1 (by decide +kernel) ?_
            refine lv_lconst (v := 0) hx hb dX10_ledAt_2 rfl ?_
            refine lv_lconst (v := 1) hx hb dX10_ledAt_3 rfl ?_
            refine xj_i (wc := ([] : va_W)) (wr := (rW h cs gI gL gA gQ)) hP hD hS hA [] [0, 1, 2, 3, 4, 5, 6, 7, 8, 9, 10, 11, 12, 13, 14, 15, 16] rfl rfl (by decide) (by decide) (va_runS (As := [.long (1 : Int64), .long (0 : Int64), .long (1 : Int64)]) (rest := []) ⟨hx, hb, hml, hown, hts⟩ (a_X10_in_193 l dC dI h cs H.size I L A Q ) (va_cwS 3 hts gX10_ledAt_X10_in rfl rfl rfl (by decide +kernel) ⟨Nat.le_of_ble_eq_true rfl, Nat.le_of_ble_eq_true rfl⟩) (xpS (wc := ([] : va_W)) hP hD hK hN [] rfl (by decide) _) rfl rfl hl.1 rfl (lv_room (Nat.le_of_ble_eq_true rfl)) dX10_ledAt_4 ⟨Nat.zero_le _, Nat.zero_le _⟩) (fun r_38 u_37 H locs hw hP hD hS => ?_)
            obtain ⟨hf_39, rfl⟩ := hw
            have hP : va_P (dC, dI) vwCl (rW h cs gI gL gA gQ) H := hP
            have hD : va_D A0 (rW h cs gI gL gA gQ) := hD
            rcases in_Z (a := 0) (b := 1) (by decide +kernel) (by decide +kernel) hf_39 with ⟨rfl, za_1 : Int64, zb_1 : Int64⟩ | ⟨rfl, -⟩
            · skip
              exact absurd hz_1 : Int64 (by omega)
            · skip
              refine lv_if_eq (tgt := 45) hx hb dX10_ledAt_7 (by decide) (fun _ => ?_) (fun c9 => False.elim (by revert c9; decide +kernel))
              refine lv_iconst (v := nI 0) hx hb dX10_ledAt_45 (by decide) ?_
              refine lv_istore (lv' := [(4, .int (nI 0)), (0, .ref (h 0)), (1, .int (nI 1)), (2, .int y), (3, .int (nI 1))]) hx hb dX10_ledAt_46 hl (by decide) rfl (fun ls hl => ?_)
              refine lv_iload hx hb dX10_ledAt_48 (lv_at hl 0 rfl) ?_
              refine lv_if_ne (tgt := 56) hx hb dX10_ledAt_50 (by decide) (fun c9 => False.elim (by revert c9; decide +kernel)) (fun _ => ?_)
              refine lv_ldc (v := (-1000001)) hx hb hown (hts (.constant RX10 232 (-1000001)) (by decide +kernel)) dX10_ledAt_53 ?_
              exact xr_i (v := (-1000001 : Int32)) hx hb hr hlocks hK hS dX10_ledAt_55 (gI, gL, gA, gQ) ⟨(by unfold an_ledAt; rw [if_neg (by omega)]), rfl⟩ hP hD
      · skip
        refine lv_iload_n hx hb dX10_ledAt_0 rfl (lv_at hl 1 rfl) ?_
        refine lv_i2l (v := (1 : Int64)) hx hb dX10_ledAt_1 (by decide +kernel) ?_
        refine lv_lconst (v := 0) hx hb dX10_ledAt_2 rfl ?_
        refine lv_lconst (v := 1) hx hb dX10_ledAt_3 rfl ?_
        refine xj_i (wc := ([] : va_W)) (wr := (rW h cs gI gL gA gQ)) hP hD hS hA [] [0, 1, 2, 3, 4, 5, 6, 7, 8, 9, 10, 11, 12, 13, 14, 15, 16] rfl rfl (by decide) (by decide) (va_runS (As := [.long (1 : Int64), .long (0 : Int64), .long (1 : Int64)]) (rest := []) ⟨hx, hb, hml, hown, hts⟩ (a_X10_in_193 l dC dI h cs H.size I L A Q ) (va_cwS 3 hts gX10_ledAt_X10_in rfl rfl rfl (by decide +kernel) ⟨Nat.le_of_ble_eq_true rfl, Nat.le_of_ble_eq_true rfl⟩) (xpS (wc := ([] : va_W)) hP hD hK hN [] rfl (by decide) _) rfl rfl hl.1 rfl (lv_room (Nat.le_of_ble_eq_true rfl)) dX10_ledAt_4 ⟨Nat.zero_le _, Nat.zero_le _⟩) (fun r_41 u_40 H locs hw hP hD hS => ?_)
        obtain ⟨hf_42, rfl⟩ := hw
        have hP : va_P (dC, dI) vwCl (rW h cs gI gL gA gQ) H := hP
        have hD : va_D A0 (rW h cs gI gL gA gQ) := hD
        rcases in_Z (a := 0) (b := 1) (by decide +kernel) (by decide +kernel) hf_42 with ⟨rfl, za_1 : Int64, zb_1 : Int64⟩ | ⟨rfl, -⟩
        · skip
          exact absurd hz_1 : Int64 (by omega)
        · skip
          refine lv_if_eq (tgt := 45) hx hb dX10_ledAt_7 (by decide) (fun _ => ?_) (fun c9 => False.elim (by revert c9; decide +kernel))
          refine lv_iconst (v := nI 0) hx hb dX10_ledAt_45 (by decide) ?_
          refine lv_istore (lv' := [(4, .int (nI 0)), (0, .ref (h 0)), (1, .int (nI 1)), (2, .int y), (3, .int z)]) hx hb dX10_ledAt_46 hl (by decide) rfl (fun ls hl => ?_)
          refine lv_iload hx hb dX10_ledAt_48 (lv_at hl 0 rfl) ?_
          refine lv_if_ne (tgt := 56) hx hb dX10_ledAt_50 (by decide) (fun c9 => False.elim (by revert c9; decide +kernel)) (fun _ => ?_)
          refine lv_ldc (v := (-1000001)) hx hb hown (hts (.constant RX10 232 (-1000001)) (by decide +kernel)) dX10_ledAt_53 ?_
          exact xr_i (v := (-1000001 : Int32)) hx hb hr hlocks hK hS dX10_ledAt_55 (gI, gL, gA, gQ) ⟨(by unfold an_ledAt; rw [if_neg (by omega)]), rfl⟩ hP hD
  · skip
    refine lv_iload_n hx hb dX10_ledAt_0 rfl (lv_at hl 1 rfl) ?_
    refine lv_i2l (v := x.toInt64) hx hb dX10_ledAt_1 rfl ?_
    refine lv_lconst (v := 0) hx hb dX10_ledAt_2 rfl ?_
    refine lv_lconst (v := 1) hx hb dX10_ledAt_3 rfl ?_
    refine xj_i (wc := ([] : va_W)) (wr := (rW h cs gI gL gA gQ)) hP hD hS hA [] [0, 1, 2, 3, 4, 5, 6, 7, 8, 9, 10, 11, 12, 13, 14, 15, 16] rfl rfl (by decide) (by decide) (va_runS (As := [.long x.toInt64, .long (0 : Int64), .long (1 : Int64)]) (rest := []) ⟨hx, hb, hml, hown, hts⟩ (k_X10_in l dC dI h cs H.size I L A Q x.toInt64 (0 : Int64) (1 : Int64)) (va_cwS 3 hts gX10_ledAt_X10_in rfl rfl rfl (by decide +kernel) ⟨Nat.le_of_ble_eq_true rfl, Nat.le_of_ble_eq_true rfl⟩) (xpS (wc := ([] : va_W)) hP hD hK hN [] rfl (by decide) _) rfl rfl hl.1 rfl (lv_room (Nat.le_of_ble_eq_true rfl)) dX10_ledAt_4 ⟨Nat.zero_le _, Nat.zero_le _⟩) (fun r_44 u_43 H locs hw hP hD hS => ?_)
    obtain ⟨hf_45, rfl⟩ := hw
    have hP : va_P (dC, dI) vwCl (rW h cs gI gL gA gQ) H := hP
    have hD : va_D A0 (rW h cs gI gL gA gQ) := hD
    rcases in_Z (a := 0) (b := 1) (by decide +kernel) (by decide +kernel) hf_45 with ⟨rfl, za_x, zb_x⟩ | ⟨rfl, -⟩
    · skip
      exact absurd hz_x (by omega)
    · skip
      refine lv_if_eq (tgt := 45) hx hb dX10_ledAt_7 (by decide) (fun _ => ?_) (fun c9 => False.elim (by revert c9; decide +kernel))
      refine lv_iconst (v := nI 0) hx hb dX10_ledAt_45 (by decide) ?_
      refine lv_istore (lv' := [(4, .int (nI 0)), (0, .ref (h 0)), (1, .int x), (2, .int y), (3, .int z)]) hx hb dX10_ledAt_46 hl (by decide) rfl (fun ls hl => ?_)
      refine lv_iload hx hb dX10_ledAt_48 (lv_at hl 0 rfl) ?_
      refine lv_if_ne (tgt := 56) hx hb dX10_ledAt_50 (by decide) (fun c9 => False.elim (by revert c9; decide +kernel)) (fun _ => ?_)
      refine lv_ldc (v := (-1000001)) hx hb hown (hts (.constant RX10 232 (-1000001)) (by decide +kernel)) dX10_ledAt_53 ?_
      exact xr_i (v := (-1000001 : Int32)) hx hb hr hlocks hK hS dX10_ledAt_55 (gI, gL, gA, gQ) ⟨(by unfold an_ledAt; rw [if_neg (by omega)]), rfl⟩ hP hD
