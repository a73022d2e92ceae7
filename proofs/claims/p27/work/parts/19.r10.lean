
theorem remL (p q : Int64) : (p - p / q * q).toInt = p.toInt.tmod q.toInt := by
  rw [Int64.toInt_sub, Int64.toInt_mul, Int64.toInt_div, Int.bmod_mul_bmod, Int.sub_bmod_bmod, Int.mul_comm, ← Int.tmod_def]
  have h1 := Int64.le_toInt p
  have h2 := Int64.toInt_lt p
  have h5 := Int64.le_toInt q
  have h6 := Int64.toInt_lt q
  by_cases hq : q.toInt = 0
  · rw [hq, Int.tmod_zero]
    exact Int.bmod_eq_of_le (by omega) (by omega)
  · have h7 : (p.toInt.tmod q.toInt).natAbs < q.toInt.natAbs := by
      rw [Int.natAbs_tmod]
      exact Nat.mod_lt _ (by omega)
    exact Int.bmod_eq_of_le (by omega) (by omega)
theorem remL_lt {p q : Int64} (h : ¬ q = 0) : (p - p / q * q).toInt.natAbs < q.toInt.natAbs := by
  rw [remL, Int.natAbs_tmod]
  refine Nat.mod_lt _ (Nat.pos_of_ne_zero fun g => h ?_)
  have g2 : q.toInt = 0 := Int.natAbs_eq_zero.mp g
  exact Int64.toInt_inj.mp (g2.trans rfl)
theorem neg_ne {y : Int64} (h : ¬ y = 0) : ¬ (0 : Int64) - y = 0 := fun g => h (by
  have g2 : -y = 0 := by simpa using g
  have g3 := congrArg (fun z : Int64 => -z) g2
  simpa using g3)

def cntF (x : Int32) : Nat → Int32
  | 0 => nI 0
  | c + 1 => cntF x c + bt1 x c
def chT (co : Nat → Int32) (M j : Nat) (x b : Int32) (w : Int64) : Prop := cntF x M = nI j ∧ (w < worthF co M x ∨ (worthF co M x = w ∧ aheadP x b M))
def chR (co : Nat → Int32) (M j : Nat) : Nat → Int32 → Int64 → Prop
  | 0, b, w => b = nI 0 ∧ w = -1
  | t + 1, b, w => ∃ (b0 : Int32) (w0 : Int64), chR co M j t b0 w0 ∧ ((chT co M j (nI (t + 1)) b0 w0 ∧ b = nI (t + 1) ∧ w = worthF co M (nI (t + 1))) ∨ (¬ chT co M j (nI (t + 1)) b0 w0 ∧ b = b0 ∧ w = w0))
theorem bdX10_common_0 : (decode cX10_common 0 = .ok (.lload_n 0, 1)) ∧ (decode cX10_common 1 = .ok (.lconst 0, 1)) ∧ (decode cX10_common 2 = .ok (.lcmp, 1)) ∧ (decode cX10_common 3 = .ok (.ifCond .ge 9, 3)) ∧ (decode cX10_common 6 = .ok (.lconst 0, 1)) ∧ (decode cX10_common 7 = .ok (.lload_n 0, 1)) ∧ (decode cX10_common 8 = .ok (.lsub, 1)) ∧ (decode cX10_common 9 = .ok (.goto 4, 3)) ∧ (decode cX10_common 12 = .ok (.lload_n 0, 1)) ∧ (decode cX10_common 13 = .ok (.lstore 4, 2)) ∧ (decode cX10_common 15 = .ok (.lload_n 2, 1)) ∧ (decode cX10_common 16 = .ok (.lconst 0, 1)) ∧ (decode cX10_common 17 = .ok (.lcmp, 1)) ∧ (decode cX10_common 18 = .ok (.ifCond .ge 9, 3)) ∧ (decode cX10_common 21 = .ok (.lconst 0, 1)) ∧ (decode cX10_common 22 = .ok (.lload_n 2, 1)) := by decide +kernel
theorem dX10_common_0 : decode cX10_common 0 = .ok (.lload_n 0, 1) := bdX10_common_0.1
theorem dX10_common_1 : decode cX10_common 1 = .ok (.lconst 0, 1) := bdX10_common_0.2.1
theorem dX10_common_2 : decode cX10_common 2 = .ok (.lcmp, 1) := bdX10_common_0.2.2.1
theorem dX10_common_3 : decode cX10_common 3 = .ok (.ifCond .ge 9, 3) := bdX10_common_0.2.2.2.1
theorem dX10_common_6 : decode cX10_common 6 = .ok (.lconst 0, 1) := bdX10_common_0.2.2.2.2.1
theorem dX10_common_7 : decode cX10_common 7 = .ok (.lload_n 0, 1) := bdX10_common_0.2.2.2.2.2.1
theorem dX10_common_8 : decode cX10_common 8 = .ok (.lsub, 1) := bdX10_common_0.2.2.2.2.2.2.1
theorem dX10_common_9 : decode cX10_common 9 = .ok (.goto 4, 3) := bdX10_common_0.2.2.2.2.2.2.2.1
theorem dX10_common_12 : decode cX10_common 12 = .ok (.lload_n 0, 1) := bdX10_common_0.2.2.2.2.2.2.2.2.1
theorem dX10_common_13 : decode cX10_common 13 = .ok (.lstore 4, 2) := bdX10_common_0.2.2.2.2.2.2.2.2.2.1
theorem dX10_common_15 : decode cX10_common 15 = .ok (.lload_n 2, 1) := bdX10_common_0.2.2.2.2.2.2.2.2.2.2.1
theorem dX10_common_16 : decode cX10_common 16 = .ok (.lconst 0, 1) := bdX10_common_0.2.2.2.2.2.2.2.2.2.2.2.1
theorem dX10_common_17 : decode cX10_common 17 = .ok (.lcmp, 1) := bdX10_common_0.2.2.2.2.2.2.2.2.2.2.2.2.1
theorem dX10_common_18 : decode cX10_common 18 = .ok (.ifCond .ge 9, 3) := bdX10_common_0.2.2.2.2.2.2.2.2.2.2.2.2.2.1
theorem dX10_common_21 : decode cX10_common 21 = .ok (.lconst 0, 1) := bdX10_common_0.2.2.2.2.2.2.2.2.2.2.2.2.2.2.1
theorem dX10_common_22 : decode cX10_common 22 = .ok (.lload_n 2, 1) := bdX10_common_0.2.2.2.2.2.2.2.2.2.2.2.2.2.2.2
theorem bdX10_common_23 : (decode cX10_common 23 = .ok (.lsub, 1)) ∧ (decode cX10_common 24 = .ok (.goto 4, 3)) ∧ (decode cX10_common 27 = .ok (.lload_n 2, 1)) ∧ (decode cX10_common 28 = .ok (.lstore 6, 2)) ∧ (decode cX10_common 30 = .ok (.lload 6, 2)) ∧ (decode cX10_common 32 = .ok (.lconst 0, 1)) ∧ (decode cX10_common 33 = .ok (.lcmp, 1)) ∧ (decode cX10_common 34 = .ok (.ifCond .eq 21, 3)) ∧ (decode cX10_common 37 = .ok (.lload 4, 2)) ∧ (decode cX10_common 39 = .ok (.lload 6, 2)) ∧ (decode cX10_common 41 = .ok (.lrem, 1)) ∧ (decode cX10_common 42 = .ok (.lstore 8, 2)) ∧ (decode cX10_common 44 = .ok (.lload 6, 2)) ∧ (decode cX10_common 46 = .ok (.lstore 4, 2)) ∧ (decode cX10_common 48 = .ok (.lload 8, 2)) ∧ (decode cX10_common 50 = .ok (.lstore 6, 2)) := by decide +kernel
theorem dX10_common_23 : decode cX10_common 23 = .ok (.lsub, 1) := bdX10_common_23.1
theorem dX10_common_24 : decode cX10_common 24 = .ok (.goto 4, 3) := bdX10_common_23.2.1
theorem dX10_common_27 : decode cX10_common 27 = .ok (.lload_n 2, 1) := bdX10_common_23.2.2.1
theorem dX10_common_28 : decode cX10_common 28 = .ok (.lstore 6, 2) := bdX10_common_23.2.2.2.1
theorem dX10_common_30 : decode cX10_common 30 = .ok (.lload 6, 2) := bdX10_common_23.2.2.2.2.1
theorem dX10_common_32 : decode cX10_common 32 = .ok (.lconst 0, 1) := bdX10_common_23.2.2.2.2.2.1
theorem dX10_common_33 : decode cX10_common 33 = .ok (.lcmp, 1) := bdX10_common_23.2.2.2.2.2.2.1
theorem dX10_common_34 : decode cX10_common 34 = .ok (.ifCond .eq 21, 3) := bdX10_common_23.2.2.2.2.2.2.2.1
theorem dX10_common_37 : decode cX10_common 37 = .ok (.lload 4, 2) := bdX10_common_23.2.2.2.2.2.2.2.2.1
theorem dX10_common_39 : decode cX10_common 39 = .ok (.lload 6, 2) := bdX10_common_23.2.2.2.2.2.2.2.2.2.1
theorem dX10_common_41 : decode cX10_common 41 = .ok (.lrem, 1) := bdX10_common_23.2.2.2.2.2.2.2.2.2.2.1
theorem dX10_common_42 : decode cX10_common 42 = .ok (.lstore 8, 2) := bdX10_common_23.2.2.2.2.2.2.2.2.2.2.2.1
theorem dX10_common_44 : decode cX10_common 44 = .ok (.lload 6, 2) := bdX10_common_23.2.2.2.2.2.2.2.2.2.2.2.2.1
theorem dX10_common_46 : decode cX10_common 46 = .ok (.lstore 4, 2) := bdX10_common_23.2.2.2.2.2.2.2.2.2.2.2.2.2.1
theorem dX10_common_48 : decode cX10_common 48 = .ok (.lload 8, 2) := bdX10_common_23.2.2.2.2.2.2.2.2.2.2.2.2.2.2.1
theorem dX10_common_50 : decode cX10_common 50 = .ok (.lstore 6, 2) := bdX10_common_23.2.2.2.2.2.2.2.2.2.2.2.2.2.2.2
theorem bdX10_common_52 : (decode cX10_common 52 = .ok (.goto (-22), 3)) ∧ (decode cX10_common 55 = .ok (.lload 4, 2)) ∧ (decode cX10_common 57 = .ok (.lreturn, 1)) := by decide +kernel
theorem dX10_common_52 : decode cX10_common 52 = .ok (.goto (-22), 3) := bdX10_common_52.1
theorem dX10_common_55 : decode cX10_common 55 = .ok (.lload 4, 2) := bdX10_common_52.2.1
theorem dX10_common_57 : decode cX10_common 57 = .ok (.lreturn, 1) := bdX10_common_52.2.2
set_option maxHeartbeats 4000000 in
set_option maxRecDepth 100000 in
theorem k_X10_common (l : Launch) (dC : Nat → ClassId) (dI : Nat → Nat → Nat) (h : Nat → Nat) (cs : Nat → ClassId) (sz : Nat) (I : Nat → Int32) (L : Nat → Int64) (A : Nat → Nat → Int32) (Q : Nat → Nat → Int64) (x y : Int64) : Met l yX10_common wsX10_common ({ frames := 0, cells := 0, slots := 0, locals := 0 }) (va_Pc [.long x, .long y] (xPre (dC, dI) ([] : va_W) (tysA cs) sz)) (va_Ql (fun (r : Int64) (u : RS) => (¬ y = 0 → ¬ r = 0) ∧ u = (I, L, A, Q)) (xB (dC, dI) (tysA cs) (va_A ([] : va_W) sz) (fun _ : RS => ([] : va_W))) (va_A ([] : va_W) sz)) 0 0 (va_A ([] : va_W) sz) := by
  refine Met.ofW (cc := cX10_common) (maxL := 10) (ret := (some .long)) (by decide) rfl ?_
  intro p e s m args below meth c s₁ B hml hv
  obtain ⟨rfl, hsz, hP, hK, hD0, hN⟩ := hv
  have hx := B.exec
  have hb := B.bytes
  have hr := B.returns
  have hts := atoms_spec (ws := wsX10_common) B.pre
  have hown : s.vm.findClass RX10 = some m.cls := findClass_of_methodNamed B.named
  have hlocks := B.notSynchronized
  subst hsz
  have hD := hD0.self (sz := s.heap.size)
  generalize hAe : va_A ([] : va_W) s.heap.size = A0 at hD ⊢
  have hA : ∀ q : Nat, s.heap.size ≤ q → A0 q := fun q h => by rw [← hAe]; exact Or.inr h
  have hl := lv_entry ([.long x, .long y]) (n := 10) (Nat.le_of_ble_eq_true rfl)
  rw [lg_entry_eq]
  generalize (lg_sl ([.long x, .long y]) ++ List.replicate (10 - (lg_sl ([.long x, .long y])).length) Slot.unset).toArray = ls at hl ⊢
  have hl : lv_has ls 10 [(0, .long x), (2, .long y)] := hl
  generalize hH : s.heap = H at hP ⊢
  have hS : va_S A0 s.heap H [] := by rw [← hH]; exact va_S.rf
  refine lv_lload_n hx hb dX10_common_0 rfl (lv_at hl 0 rfl) ?_
  refine lv_lconst (v := 0) hx hb dX10_common_1 rfl ?_
  refine xl_ge (tgt := 12) hx hb dX10_common_2 dX10_common_3 (by decide) (fun c_2_0 => ?_) (fun c_2_0 => ?_)
  · skip
    refine lv_lload_n hx hb dX10_common_12 rfl (lv_at hl 0 rfl) ?_
    refine lv_lstore (lv' := [(4, .long x), (0, .long x), (2, .long y)]) hx hb dX10_common_13 hl (by decide) rfl (fun ls hl => ?_)
    refine lv_lload_n hx hb dX10_common_15 rfl (lv_at hl 2 rfl) ?_
    refine lv_lconst (v := 0) hx hb dX10_common_16 rfl ?_
    refine xl_ge (tgt := 27) hx hb dX10_common_17 dX10_common_18 (by decide) (fun c_17_1 => ?_) (fun c_17_1 => ?_)
    · skip
      refine lv_lload_n hx hb dX10_common_27 rfl (lv_at hl 2 rfl) ?_
      refine lv_lstore (lv' := [(6, .long y), (4, .long x), (0, .long x), (2, .long y)]) hx hb dX10_common_28 hl (by decide) rfl (fun ls hl => ?_)
      have cut_30 : ∀ (nf : Nat) (p4 : Int64) (q6 : Int64), q6.toInt.natAbs < nf → (¬ y = 0 → (¬ p4 = 0 ∨ ¬ q6 = 0)) → ∀ (H : Heap) (locs : List Loc) (ls : Array Slot), va_P (dC, dI) vwCl ([] : va_W) H → va_D A0 ([] : va_W) → va_S A0 s.heap H locs → lv_has ls 10 [(0, .long x), (2, .long y), (4, .long p4), (6, .long q6)] → W p l e (headSpec wsX10_common ({ frames := 0, cells := 0, slots := 0, locals := 0 })).room s m ([.long x, .long y] : List Value).toArray below meth c H locs 0 0 (MQ below (va_Ql (fun (r : Int64) (u : RS) => (¬ y = 0 → ¬ r = 0) ∧ u = (I, L, A, Q)) (xB (dC, dI) (tysA cs) A0 (fun _ : RS => ([] : va_W))) A0) ([.long x, .long y] : List Value).toArray s 0 0 A0) (F0 m 30 ls []) := by
        intro nf
        induction nf with
        | zero => intro p4 q6 hm; exact absurd hm (Nat.not_lt_zero _)
        | succ nf ih_30 =>
          intro p4 q6 hm_30 hpq_30 H locs ls hP hD hS hl
          refine lv_lload hx hb dX10_common_30 (lv_at hl 3 rfl) ?_
          refine lv_lconst (v := 0) hx hb dX10_common_32 rfl ?_
          refine xl_eq (tgt := 55) hx hb dX10_common_33 dX10_common_34 (by decide) (fun c_33_2 => ?_) (fun c_33_2 => ?_)
          · skip
            refine lv_lload hx hb dX10_common_55 (lv_at hl 2 rfl) ?_
            exact xr_l (v := p4) hx hb hr hlocks hK hS dX10_common_57 (I, L, A, Q) ⟨(fun g => (hpq_30 g).elim id (fun g2 => absurd (by assumption) g2)), rfl⟩ hP hD
          · skip
            refine lv_lload hx hb dX10_common_37 (lv_at hl 2 rfl) ?_
            refine lv_lload hx hb dX10_common_39 (lv_at hl 3 rfl) ?_
            refine lv_lrem hx hb dX10_common_41 (by assumption) ?_
            refine lv_lstore (lv' := [(8, .long (p4 - p4 / q6 * q6)), (0, .long x), (2, .long y), (4, .long p4), (6, .long q6)]) hx hb dX10_common_42 hl (by decide) rfl (fun ls hl => ?_)
            refine lv_lload hx hb dX10_common_44 (lv_at hl 4 rfl) ?_
            refine lv_lstore (lv' := [(4, .long q6), (8, .long (p4 - p4 / q6 * q6)), (0, .long x), (2, .long y), (6, .long q6)]) hx hb dX10_common_46 hl (by decide) rfl (fun ls hl => ?_)
            refine lv_lload hx hb dX10_common_48 (lv_at hl 1 rfl) ?_
            refine lv_lstore (lv' := [(6, .long (p4 - p4 / q6 * q6)), (4, .long q6), (8, .long (p4 - p4 / q6 * q6)), (0, .long x), (2, .long y)]) hx hb dX10_common_50 hl (by decide) rfl (fun ls hl => ?_)
            refine lv_goto (tgt := 30) hx hb dX10_common_52 (by decide) ?_
            exact ih_30 q6 (p4 - p4 / q6 * q6) (by have h9 := remL_lt (p := p4) (q := q6) (by assumption); omega) (by first | exact (fun _ => Or.inl (by assumption)) | exact (fun g => Or.inr g) | exact (fun g => Or.inr (neg_ne g))) _ _ _ hP hD hS (lv_sub hl [3, 4, 1, 0] rfl)
      exact cut_30 _ x y (Nat.lt_succ_self _) (by first | exact (fun _ => Or.inl (by assumption)) | exact (fun g => Or.inr g) | exact (fun g => Or.inr (neg_ne g))) _ _ _ hP hD hS (lv_sub hl [2, 3, 1, 0] rfl)
    · skip
      refine lv_lconst (v := 0) hx hb dX10_common_21 rfl ?_
      refine lv_lload_n hx hb dX10_common_22 rfl (lv_at hl 2 rfl) ?_
      refine lv_lsub hx hb dX10_common_23 ?_
      refine lv_goto (tgt := 28) hx hb dX10_common_24 (by decide) ?_
      refine lv_lstore (lv' := [(6, .long ((0 : Int64) - y)), (4, .long x), (0, .long x), (2, .long y)]) hx hb dX10_common_28 hl (by decide) rfl (fun ls hl => ?_)
      have cut_30 : ∀ (nf : Nat) (p4 : Int64) (q6 : Int64), q6.toInt.natAbs < nf → (¬ y = 0 → (¬ p4 = 0 ∨ ¬ q6 = 0)) → ∀ (H : Heap) (locs : List Loc) (ls : Array Slot), va_P (dC, dI) vwCl ([] : va_W) H → va_D A0 ([] : va_W) → va_S A0 s.heap H locs → lv_has ls 10 [(0, .long x), (2, .long y), (4, .long p4), (6, .long q6)] → W p l e (headSpec wsX10_common ({ frames := 0, cells := 0, slots := 0, locals := 0 })).room s m ([.long x, .long y] : List Value).toArray below meth c H locs 0 0 (MQ below (va_Ql (fun (r : Int64) (u : RS) => (¬ y = 0 → ¬ r = 0) ∧ u = (I, L, A, Q)) (xB (dC, dI) (tysA cs) A0 (fun _ : RS => ([] : va_W))) A0) ([.long x, .long y] : List Value).toArray s 0 0 A0) (F0 m 30 ls []) := by
        intro nf
        induction nf with
        | zero => intro p4 q6 hm; exact absurd hm (Nat.not_lt_zero _)
        | succ nf ih_30 =>
          intro p4 q6 hm_30 hpq_30 H locs ls hP hD hS hl
          refine lv_lload hx hb dX10_common_30 (lv_at hl 3 rfl) ?_
          refine lv_lconst (v := 0) hx hb dX10_common_32 rfl ?_
          refine xl_eq (tgt := 55) hx hb dX10_common_33 dX10_common_34 (by decide) (fun c_33_3 => ?_) (fun c_33_3 => ?_)
          · skip
            refine lv_lload hx hb dX10_common_55 (lv_at hl 2 rfl) ?_
            exact xr_l (v := p4) hx hb hr hlocks hK hS dX10_common_57 (I, L, A, Q) ⟨(fun g => (hpq_30 g).elim id (fun g2 => absurd (by assumption) g2)), rfl⟩ hP hD
          · skip
            refine lv_lload hx hb dX10_common_37 (lv_at hl 2 rfl) ?_
            refine lv_lload hx hb dX10_common_39 (lv_at hl 3 rfl) ?_
            refine lv_lrem hx hb dX10_common_41 (by assumption) ?_
            refine lv_lstore (lv' := [(8, .long (p4 - p4 / q6 * q6)), (0, .long x), (2, .long y), (4, .long p4), (6, .long q6)]) hx hb dX10_common_42 hl (by decide) rfl (fun ls hl => ?_)
            refine lv_lload hx hb dX10_common_44 (lv_at hl 4 rfl) ?_
            refine lv_lstore (lv' := [(4, .long q6), (8, .long (p4 - p4 / q6 * q6)), (0, .long x), (2, .long y), (6, .long q6)]) hx hb dX10_common_46 hl (by decide) rfl (fun ls hl => ?_)
            refine lv_lload hx hb dX10_common_48 (lv_at hl 1 rfl) ?_
            refine lv_lstore (lv' := [(6, .long (p4 - p4 / q6 * q6)), (4, .long q6), (8, .long (p4 - p4 / q6 * q6)), (0, .long x), (2, .long y)]) hx hb dX10_common_50 hl (by decide) rfl (fun ls hl => ?_)
            refine lv_goto (tgt := 30) hx hb dX10_common_52 (by decide) ?_
            exact ih_30 q6 (p4 - p4 / q6 * q6) (by have h9 := remL_lt (p := p4) (q := q6) (by assumption); omega) (by first | exact (fun _ => Or.inl (by assumption)) | exact (fun g => Or.inr g) | exact (fun g => Or.inr (neg_ne g))) _ _ _ hP hD hS (lv_sub hl [3, 4, 1, 0] rfl)
      exact cut_30 _ x ((0 : Int64) - y) (Nat.lt_succ_self _) (by first | exact (fun _ => Or.inl (by assumption)) | exact (fun g => Or.inr g) | exact (fun g => Or.inr (neg_ne g))) _ _ _ hP hD hS (lv_sub hl [2, 3, 1, 0] rfl)
  · skip
    refine lv_lconst (v := 0) hx hb dX10_common_6 rfl ?_
    refine lv_lload_n hx hb dX10_common_7 rfl (lv_at hl 0 rfl) ?_
    refine lv_lsub hx hb dX10_common_8 ?_
    refine lv_goto (tgt := 13) hx hb dX10_common_9 (by decide) ?_
    refine lv_lstore (lv' := [(4, .long ((0 : Int64) - x)), (0, .long x), (2, .long y)]) hx hb dX10_common_13 hl (by decide) rfl (fun ls hl => ?_)
    refine lv_lload_n hx hb dX10_common_15 rfl (lv_at hl 2 rfl) ?_
    refine lv_lconst (v := 0) hx hb dX10_common_16 rfl ?_
    refine xl_ge (tgt := 27) hx hb dX10_common_17 dX10_common_18 (by decide) (fun c_17_4 => ?_) (fun c_17_4 => ?_)
    · skip
      refine lv_lload_n hx hb dX10_common_27 rfl (lv_at hl 2 rfl) ?_
      refine lv_lstore (lv' := [(6, .long y), (4, .long ((0 : Int64) - x)), (0, .long x), (2, .long y)]) hx hb dX10_common_28 hl (by decide) rfl (fun ls hl => ?_)
      have cut_30 : ∀ (nf : Nat) (p4 : Int64) (q6 : Int64), q6.toInt.natAbs < nf → (¬ y = 0 → (¬ p4 = 0 ∨ ¬ q6 = 0)) → ∀ (H : Heap) (locs : List Loc) (ls : Array Slot), va_P (dC, dI) vwCl ([] : va_W) H → va_D A0 ([] : va_W) → va_S A0 s.heap H locs → lv_has ls 10 [(0, .long x), (2, .long y), (4, .long p4), (6, .long q6)] → W p l e (headSpec wsX10_common ({ frames := 0, cells := 0, slots := 0, locals := 0 })).room s m ([.long x, .long y] : List Value).toArray below meth c H locs 0 0 (MQ below (va_Ql (fun (r : Int64) (u : RS) => (¬ y = 0 → ¬ r = 0) ∧ u = (I, L, A, Q)) (xB (dC, dI) (tysA cs) A0 (fun _ : RS => ([] : va_W))) A0) ([.long x, .long y] : List Value).toArray s 0 0 A0) (F0 m 30 ls []) := by
        intro nf
        induction nf with
        | zero => intro p4 q6 hm; exact absurd hm (Nat.not_lt_zero _)
        | succ nf ih_30 =>
          intro p4 q6 hm_30 hpq_30 H locs ls hP hD hS hl
          refine lv_lload hx hb dX10_common_30 (lv_at hl 3 rfl) ?_
          refine lv_lconst (v := 0) hx hb dX10_common_32 rfl ?_
          refine xl_eq (tgt := 55) hx hb dX10_common_33 dX10_common_34 (by decide) (fun c_33_5 => ?_) (fun c_33_5 => ?_)
          · skip
            refine lv_lload hx hb dX10_common_55 (lv_at hl 2 rfl) ?_
            exact xr_l (v := p4) hx hb hr hlocks hK hS dX10_common_57 (I, L, A, Q) ⟨(fun g => (hpq_30 g).elim id (fun g2 => absurd (by assumption) g2)), rfl⟩ hP hD
          · skip
            refine lv_lload hx hb dX10_common_37 (lv_at hl 2 rfl) ?_
            refine lv_lload hx hb dX10_common_39 (lv_at hl 3 rfl) ?_
            refine lv_lrem hx hb dX10_common_41 (by assumption) ?_
            refine lv_lstore (lv' := [(8, .long (p4 - p4 / q6 * q6)), (0, .long x), (2, .long y), (4, .long p4), (6, .long q6)]) hx hb dX10_common_42 hl (by decide) rfl (fun ls hl => ?_)
            refine lv_lload hx hb dX10_common_44 (lv_at hl 4 rfl) ?_
            refine lv_lstore (lv' := [(4, .long q6), (8, .long (p4 - p4 / q6 * q6)), (0, .long x), (2, .long y), (6, .long q6)]) hx hb dX10_common_46 hl (by decide) rfl (fun ls hl => ?_)
            refine lv_lload hx hb dX10_common_48 (lv_at hl 1 rfl) ?_
            refine lv_lstore (lv' := [(6, .long (p4 - p4 / q6 * q6)), (4, .long q6), (8, .long (p4 - p4 / q6 * q6)), (0, .long x), (2, .long y)]) hx hb dX10_common_50 hl (by decide) rfl (fun ls hl => ?_)
            refine lv_goto (tgt := 30) hx hb dX10_common_52 (by decide) ?_
            exact ih_30 q6 (p4 - p4 / q6 * q6) (by have h9 := remL_lt (p := p4) (q := q6) (by assumption); omega) (by first | exact (fun _ => Or.inl (by assumption)) | exact (fun g => Or.inr g) | exact (fun g => Or.inr (neg_ne g))) _ _ _ hP hD hS (lv_sub hl [3, 4, 1, 0] rfl)
      exact cut_30 _ ((0 : Int64) - x) y (Nat.lt_succ_self _) (by first | exact (fun _ => Or.inl (by assumption)) | exact (fun g => Or.inr g) | exact (fun g => Or.inr (neg_ne g))) _ _ _ hP hD hS (lv_sub hl [2, 3, 1, 0] rfl)
    · skip
      refine lv_lconst (v := 0) hx hb dX10_common_21 rfl ?_
      refine lv_lload_n hx hb dX10_common_22 rfl (lv_at hl 2 rfl) ?_
      refine lv_lsub hx hb dX10_common_23 ?_
      refine lv_goto (tgt := 28) hx hb dX10_common_24 (by decide) ?_
      refine lv_lstore (lv' := [(6, .long ((0 : Int64) - y)), (4, .long ((0 : Int64) - x)), (0, .long x), (2, .long y)]) hx hb dX10_common_28 hl (by decide) rfl (fun ls hl => ?_)
      have cut_30 : ∀ (nf : Nat) (p4 : Int64) (q6 : Int64), q6.toInt.natAbs < nf → (¬ y = 0 → (¬ p4 = 0 ∨ ¬ q6 = 0)) → ∀ (H : Heap) (locs : List Loc) (ls : Array Slot), va_P (dC, dI) vwCl ([] : va_W) H → va_D A0 ([] : va_W) → va_S A0 s.heap H locs → lv_has ls 10 [(0, .long x), (2, .long y), (4, .long p4), (6, .long q6)] → W p l e (headSpec wsX10_common ({ frames := 0, cells := 0, slots := 0, locals := 0 })).room s m ([.long x, .long y] : List Value).toArray below meth c H locs 0 0 (MQ below (va_Ql (fun (r : Int64) (u : RS) => (¬ y = 0 → ¬ r = 0) ∧ u = (I, L, A, Q)) (xB (dC, dI) (tysA cs) A0 (fun _ : RS => ([] : va_W))) A0) ([.long x, .long y] : List Value).toArray s 0 0 A0) (F0 m 30 ls []) := by
        intro nf
        induction nf with
        | zero => intro p4 q6 hm; exact absurd hm (Nat.not_lt_zero _)
        | succ nf ih_30 =>
          intro p4 q6 hm_30 hpq_30 H locs ls hP hD hS hl
          refine lv_lload hx hb dX10_common_30 (lv_at hl 3 rfl) ?_
          refine lv_lconst (v := 0) hx hb dX10_common_32 rfl ?_
          refine xl_eq (tgt := 55) hx hb dX10_common_33 dX10_common_34 (by decide) (fun c_33_6 => ?_) (fun c_33_6 => ?_)
          · skip
            refine lv_lload hx hb dX10_common_55 (lv_at hl 2 rfl) ?_
            exact xr_l (v := p4) hx hb hr hlocks hK hS dX10_common_57 (I, L, A, Q) ⟨(fun g => (hpq_30 g).elim id (fun g2 => absurd (by assumption) g2)), rfl⟩ hP hD
          · skip
            refine lv_lload hx hb dX10_common_37 (lv_at hl 2 rfl) ?_
            refine lv_lload hx hb dX10_common_39 (lv_at hl 3 rfl) ?_
            refine lv_lrem hx hb dX10_common_41 (by assumption) ?_
            refine lv_lstore (lv' := [(8, .long (p4 - p4 / q6 * q6)), (0, .long x), (2, .long y), (4, .long p4), (6, .long q6)]) hx hb dX10_common_42 hl (by decide) rfl (fun ls hl => ?_)
            refine lv_lload hx hb dX10_common_44 (lv_at hl 4 rfl) ?_
            refine lv_lstore (lv' := [(4, .long q6), (8, .long (p4 - p4 / q6 * q6)), (0, .long x), (2, .long y), (6, .long q6)]) hx hb dX10_common_46 hl (by decide) rfl (fun ls hl => ?_)
            refine lv_lload hx hb dX10_common_48 (lv_at hl 1 rfl) ?_
            refine lv_lstore (lv' := [(6, .long (p4 - p4 / q6 * q6)), (4, .long q6), (8, .long (p4 - p4 / q6 * q6)), (0, .long x), (2, .long y)]) hx hb dX10_common_50 hl (by decide) rfl (fun ls hl => ?_)
            refine lv_goto (tgt := 30) hx hb dX10_common_52 (by decide) ?_
            exact ih_30 q6 (p4 - p4 / q6 * q6) (by have h9 := remL_lt (p := p4) (q := q6) (by assumption); omega) (by first | exact (fun _ => Or.inl (by assumption)) | exact (fun g => Or.inr g) | exact (fun g => Or.inr (neg_ne g))) _ _ _ hP hD hS (lv_sub hl [3, 4, 1, 0] rfl)
      exact cut_30 _ ((0 : Int64) - x) ((0 : Int64) - y) (Nat.lt_succ_self _) (by first | exact (fun _ => Or.inl (by assumption)) | exact (fun g => Or.inr g) | exact (fun g => Or.inr (neg_ne g))) _ _ _ hP hD hS (lv_sub hl [2, 3, 1, 0] rfl)
set_option maxRecDepth 20000 in
theorem ggX10_fraction_X10_isColumn : GoodIn wsX10_fraction wsX10_isColumn := goodIn_r _ [9, 10, 11, 12, 8, 13, 51, 52, 53, 54, 55, 56, 57, 58, 59, 60, 61, 62, 63, 64, 65, 66, 67, 68, 69, 70, 71, 72, 73, 74, 75, 76, 77, 78] rfl (by decide +kernel)
set_option maxRecDepth 20000 in
theorem gX10_fraction_X10_isColumn : GoodIn wsX10_fraction (wsV RX10 90 RX10 yX10_isColumn wsX10_isColumn) := goodIn_app (goodIn_of _ (by decide +kernel)) ggX10_fraction_X10_isColumn
set_option maxRecDepth 20000 in
theorem ggX10_fraction_X10_in : GoodIn wsX10_fraction wsX10_in := goodIn_r _ [13] rfl (by decide +kernel)
set_option maxRecDepth 20000 in
theorem gX10_fraction_X10_in : GoodIn wsX10_fraction (va_wsS RX10 77 yX10_in wsX10_in) := goodIn_app (goodIn_of _ (by decide +kernel)) ggX10_fraction_X10_in
set_option maxRecDepth 20000 in
theorem ggX10_fraction_X10_lay : GoodIn wsX10_fraction wsX10_lay := goodIn_r _ [17, 18, 10, 19, 20, 21, 51, 52, 53, 54, 55, 56, 57, 58, 59, 60, 61, 62, 63, 64, 65, 66, 67, 68, 69, 70, 71, 72, 73, 74, 75, 76, 77, 78] rfl (by decide +kernel)
set_option maxRecDepth 20000 in
theorem gX10_fraction_X10_lay : GoodIn wsX10_fraction (wsV RX10 172 RX10 yX10_lay wsX10_lay) := goodIn_app (goodIn_of _ (by decide +kernel)) ggX10_fraction_X10_lay
set_option maxRecDepth 20000 in
theorem ggX10_fraction_X10_whole : GoodIn wsX10_fraction wsX10_whole := goodIn_r _ [25, 10, 51, 52, 53, 54, 55, 56, 57, 58, 59, 60, 61, 62, 63, 64, 65, 66, 67, 68, 69, 70, 71, 72, 73, 74, 75, 76, 77, 78] rfl (by decide +kernel)
set_option maxRecDepth 20000 in
theorem gX10_fraction_X10_whole : GoodIn wsX10_fraction (wsV RX10 182 RX10 yX10_whole wsX10_whole) := goodIn_app (goodIn_of _ (by decide +kernel)) ggX10_fraction_X10_whole
set_option maxRecDepth 20000 in
theorem ggX10_fraction_X10_worthOf : GoodIn wsX10_fraction wsX10_worthOf := goodIn_r _ [29, 10, 30, 31, 32, 33, 8, 34, 18, 35, 36, 37, 38, 51, 52, 53, 54, 55, 56, 57, 58, 59, 60, 61, 62, 63, 64, 65, 66, 67, 68, 69, 70, 71, 72, 73, 74, 75, 76, 77, 78] rfl (by decide +kernel)
set_option maxRecDepth 20000 in
theorem gX10_fraction_X10_worthOf : GoodIn wsX10_fraction (wsV RX10 187 RX10 yX10_worthOf wsX10_worthOf) := goodIn_app (goodIn_of _ (by decide +kernel)) ggX10_fraction_X10_worthOf
set_option maxRecDepth 20000 in
theorem ggX10_fraction_X10_meetHeard : GoodIn wsX10_fraction wsX10_meetHeard := goodIn_r _ [42, 43, 19, 20, 51, 52, 53, 54, 55, 56, 57, 58, 59, 60, 61, 62, 63, 64, 65, 66, 67, 68, 69, 70, 71, 72, 73, 74, 75, 76, 77, 78] rfl (by decide +kernel)
set_option maxRecDepth 20000 in
theorem gX10_fraction_X10_meetHeard : GoodIn wsX10_fraction (wsV RX10 197 RX10 yX10_meetHeard wsX10_meetHeard) := goodIn_app (goodIn_of _ (by decide +kernel)) ggX10_fraction_X10_meetHeard
set_option maxRecDepth 20000 in
theorem ggX10_fraction_X10_fractionOf : GoodIn wsX10_fraction wsX10_fractionOf := goodIn_r _ [47, 4, 10, 18, 43, 30, 3, 22, 23, 24, 8, 25, 26, 27, 28, 29, 31, 32, 33, 34, 35, 36, 37, 38, 51, 52, 53, 54, 55, 56, 57, 58, 59, 60, 61, 62, 63, 64, 65, 66, 67, 68, 69, 70, 71, 72, 73, 74, 75, 76, 77, 78] rfl (by decide +kernel)
set_option maxRecDepth 20000 in
theorem gX10_fraction_X10_fractionOf : GoodIn wsX10_fraction (wsV RX10 200 RX10 yX10_fractionOf wsX10_fractionOf) := goodIn_app (goodIn_of _ (by decide +kernel)) ggX10_fraction_X10_fractionOf
set_option maxRecDepth 20000 in
theorem ggX10_fraction_X10_common : GoodIn wsX10_fraction wsX10_common := goodIn_r _ [50] rfl (by decide +kernel)
set_option maxRecDepth 20000 in
theorem gX10_fraction_X10_common : GoodIn wsX10_fraction (va_wsS RX10 215 yX10_common wsX10_common) := goodIn_app (goodIn_of _ (by decide +kernel)) ggX10_fraction_X10_common
theorem bdX10_fraction_0 : (decode cX10_fraction 0 = .ok (.aload_n 0, 1)) ∧ (decode cX10_fraction 1 = .ok (.iload_n 1, 1)) ∧ (decode cX10_fraction 2 = .ok (.invokevirtual 90, 3)) ∧ (decode cX10_fraction 5 = .ok (.ifCond .eq 13, 3)) ∧ (decode cX10_fraction 8 = .ok (.iload_n 2, 1)) ∧ (decode cX10_fraction 9 = .ok (.i2l, 1)) ∧ (decode cX10_fraction 10 = .ok (.lconst 0, 1)) ∧ (decode cX10_fraction 11 = .ok (.lconst 1, 1)) ∧ (decode cX10_fraction 12 = .ok (.invokestatic 77, 3)) ∧ (decode cX10_fraction 15 = .ok (.ifCond .ne 7, 3)) ∧ (decode cX10_fraction 18 = .ok (.ldc2_w 211, 3)) ∧ (decode cX10_fraction 21 = .ok (.lreturn, 1)) ∧ (decode cX10_fraction 22 = .ok (.aload_n 0, 1)) ∧ (decode cX10_fraction 23 = .ok (.invokevirtual 172, 3)) ∧ (decode cX10_fraction 26 = .ok (.aload_n 0, 1)) ∧ (decode cX10_fraction 27 = .ok (.aload_n 0, 1)) := by decide +kernel
theorem dX10_fraction_0 : decode cX10_fraction 0 = .ok (.aload_n 0, 1) := bdX10_fraction_0.1
theorem dX10_fraction_1 : decode cX10_fraction 1 = .ok (.iload_n 1, 1) := bdX10_fraction_0.2.1
theorem dX10_fraction_2 : decode cX10_fraction 2 = .ok (.invokevirtual 90, 3) := bdX10_fraction_0.2.2.1
theorem dX10_fraction_5 : decode cX10_fraction 5 = .ok (.ifCond .eq 13, 3) := bdX10_fraction_0.2.2.2.1
theorem dX10_fraction_8 : decode cX10_fraction 8 = .ok (.iload_n 2, 1) := bdX10_fraction_0.2.2.2.2.1
theorem dX10_fraction_9 : decode cX10_fraction 9 = .ok (.i2l, 1) := bdX10_fraction_0.2.2.2.2.2.1
theorem dX10_fraction_10 : decode cX10_fraction 10 = .ok (.lconst 0, 1) := bdX10_fraction_0.2.2.2.2.2.2.1
theorem dX10_fraction_11 : decode cX10_fraction 11 = .ok (.lconst 1, 1) := bdX10_fraction_0.2.2.2.2.2.2.2.1
theorem dX10_fraction_12 : decode cX10_fraction 12 = .ok (.invokestatic 77, 3) := bdX10_fraction_0.2.2.2.2.2.2.2.2.1
theorem dX10_fraction_15 : decode cX10_fraction 15 = .ok (.ifCond .ne 7, 3) := bdX10_fraction_0.2.2.2.2.2.2.2.2.2.1
theorem dX10_fraction_18 : decode cX10_fraction 18 = .ok (.ldc2_w 211, 3) := bdX10_fraction_0.2.2.2.2.2.2.2.2.2.2.1
theorem dX10_fraction_21 : decode cX10_fraction 21 = .ok (.lreturn, 1) := bdX10_fraction_0.2.2.2.2.2.2.2.2.2.2.2.1
theorem dX10_fraction_22 : decode cX10_fraction 22 = .ok (.aload_n 0, 1) := bdX10_fraction_0.2.2.2.2.2.2.2.2.2.2.2.2.1
theorem dX10_fraction_23 : decode cX10_fraction 23 = .ok (.invokevirtual 172, 3) := bdX10_fraction_0.2.2.2.2.2.2.2.2.2.2.2.2.2.1
theorem dX10_fraction_26 : decode cX10_fraction 26 = .ok (.aload_n 0, 1) := bdX10_fraction_0.2.2.2.2.2.2.2.2.2.2.2.2.2.2.1
theorem dX10_fraction_27 : decode cX10_fraction 27 = .ok (.aload_n 0, 1) := bdX10_fraction_0.2.2.2.2.2.2.2.2.2.2.2.2.2.2.2
theorem bdX10_fraction_28 : (decode cX10_fraction 28 = .ok (.invokevirtual 182, 3)) ∧ (decode cX10_fraction 31 = .ok (.invokevirtual 187, 3)) ∧ (decode cX10_fraction 34 = .ok (.lconst 0, 1)) ∧ (decode cX10_fraction 35 = .ok (.lcmp, 1)) ∧ (decode cX10_fraction 36 = .ok (.ifCond .ne 7, 3)) ∧ (decode cX10_fraction 39 = .ok (.ldc2_w 213, 3)) ∧ (decode cX10_fraction 42 = .ok (.lreturn, 1)) ∧ (decode cX10_fraction 43 = .ok (.aload_n 0, 1)) ∧ (decode cX10_fraction 44 = .ok (.invokevirtual 197, 3)) ∧ (decode cX10_fraction 47 = .ok (.aload_n 0, 1)) ∧ (decode cX10_fraction 48 = .ok (.iload_n 1, 1)) ∧ (decode cX10_fraction 49 = .ok (.invokevirtual 200, 3)) ∧ (decode cX10_fraction 52 = .ok (.aload_n 0, 1)) ∧ (decode cX10_fraction 53 = .ok (.getfield 194, 3)) ∧ (decode cX10_fraction 56 = .ok (.aload_n 0, 1)) ∧ (decode cX10_fraction 57 = .ok (.getfield 190, 3)) := by decide +kernel
theorem dX10_fraction_28 : decode cX10_fraction 28 = .ok (.invokevirtual 182, 3) := bdX10_fraction_28.1
theorem dX10_fraction_31 : decode cX10_fraction 31 = .ok (.invokevirtual 187, 3) := bdX10_fraction_28.2.1
theorem dX10_fraction_34 : decode cX10_fraction 34 = .ok (.lconst 0, 1) := bdX10_fraction_28.2.2.1
theorem dX10_fraction_35 : decode cX10_fraction 35 = .ok (.lcmp, 1) := bdX10_fraction_28.2.2.2.1
theorem dX10_fraction_36 : decode cX10_fraction 36 = .ok (.ifCond .ne 7, 3) := bdX10_fraction_28.2.2.2.2.1
theorem dX10_fraction_39 : decode cX10_fraction 39 = .ok (.ldc2_w 213, 3) := bdX10_fraction_28.2.2.2.2.2.1
theorem dX10_fraction_42 : decode cX10_fraction 42 = .ok (.lreturn, 1) := bdX10_fraction_28.2.2.2.2.2.2.1
theorem dX10_fraction_43 : decode cX10_fraction 43 = .ok (.aload_n 0, 1) := bdX10_fraction_28.2.2.2.2.2.2.2.1
theorem dX10_fraction_44 : decode cX10_fraction 44 = .ok (.invokevirtual 197, 3) := bdX10_fraction_28.2.2.2.2.2.2.2.2.1
theorem dX10_fraction_47 : decode cX10_fraction 47 = .ok (.aload_n 0, 1) := bdX10_fraction_28.2.2.2.2.2.2.2.2.2.1
theorem dX10_fraction_48 : decode cX10_fraction 48 = .ok (.iload_n 1, 1) := bdX10_fraction_28.2.2.2.2.2.2.2.2.2.2.1
theorem dX10_fraction_49 : decode cX10_fraction 49 = .ok (.invokevirtual 200, 3) := bdX10_fraction_28.2.2.2.2.2.2.2.2.2.2.2.1
theorem dX10_fraction_52 : decode cX10_fraction 52 = .ok (.aload_n 0, 1) := bdX10_fraction_28.2.2.2.2.2.2.2.2.2.2.2.2.1
theorem dX10_fraction_53 : decode cX10_fraction 53 = .ok (.getfield 194, 3) := bdX10_fraction_28.2.2.2.2.2.2.2.2.2.2.2.2.2.1
theorem dX10_fraction_56 : decode cX10_fraction 56 = .ok (.aload_n 0, 1) := bdX10_fraction_28.2.2.2.2.2.2.2.2.2.2.2.2.2.2.1
theorem dX10_fraction_57 : decode cX10_fraction 57 = .ok (.getfield 190, 3) := bdX10_fraction_28.2.2.2.2.2.2.2.2.2.2.2.2.2.2.2
theorem bdX10_fraction_60 : (decode cX10_fraction 60 = .ok (.invokestatic 215, 3)) ∧ (decode cX10_fraction 63 = .ok (.lstore_n 3, 1)) ∧ (decode cX10_fraction 64 = .ok (.iload_n 2, 1)) ∧ (decode cX10_fraction 65 = .ok (.ifCond .ne 10, 3)) ∧ (decode cX10_fraction 68 = .ok (.aload_n 0, 1)) ∧ (decode cX10_fraction 69 = .ok (.getfield 194, 3)) ∧ (decode cX10_fraction 72 = .ok (.goto 7, 3)) ∧ (decode cX10_fraction 75 = .ok (.aload_n 0, 1)) ∧ (decode cX10_fraction 76 = .ok (.getfield 190, 3)) ∧ (decode cX10_fraction 79 = .ok (.lload_n 3, 1)) ∧ (decode cX10_fraction 80 = .ok (.ldiv, 1)) ∧ (decode cX10_fraction 81 = .ok (.lreturn, 1)) := by decide +kernel
theorem dX10_fraction_60 : decode cX10_fraction 60 = .ok (.invokestatic 215, 3) := bdX10_fraction_60.1
theorem dX10_fraction_63 : decode cX10_fraction 63 = .ok (.lstore_n 3, 1) := bdX10_fraction_60.2.1
theorem dX10_fraction_64 : decode cX10_fraction 64 = .ok (.iload_n 2, 1) := bdX10_fraction_60.2.2.1
theorem dX10_fraction_65 : decode cX10_fraction 65 = .ok (.ifCond .ne 10, 3) := bdX10_fraction_60.2.2.2.1
theorem dX10_fraction_68 : decode cX10_fraction 68 = .ok (.aload_n 0, 1) := bdX10_fraction_60.2.2.2.2.1
theorem dX10_fraction_69 : decode cX10_fraction 69 = .ok (.getfield 194, 3) := bdX10_fraction_60.2.2.2.2.2.1
theorem dX10_fraction_72 : decode cX10_fraction 72 = .ok (.goto 7, 3) := bdX10_fraction_60.2.2.2.2.2.2.1
theorem dX10_fraction_75 : decode cX10_fraction 75 = .ok (.aload_n 0, 1) := bdX10_fraction_60.2.2.2.2.2.2.2.1
theorem dX10_fraction_76 : decode cX10_fraction 76 = .ok (.getfield 190, 3) := bdX10_fraction_60.2.2.2.2.2.2.2.2.1
theorem dX10_fraction_79 : decode cX10_fraction 79 = .ok (.lload_n 3, 1) := bdX10_fraction_60.2.2.2.2.2.2.2.2.2.1
theorem dX10_fraction_80 : decode cX10_fraction 80 = .ok (.ldiv, 1) := bdX10_fraction_60.2.2.2.2.2.2.2.2.2.2.1
theorem dX10_fraction_81 : decode cX10_fraction 81 = .ok (.lreturn, 1) := bdX10_fraction_60.2.2.2.2.2.2.2.2.2.2.2
set_option maxHeartbeats 4000000 in
set_option maxRecDepth 100000 in
theorem k_X10_fraction (l : Launch) (dC : Nat → ClassId) (dI : Nat → Nat → Nat) (h : Nat → Nat) (cs : Nat → ClassId) (sz : Nat) (I : Nat → Int32) (L : Nat → Int64) (A : Nat → Nat → Int32) (Q : Nat → Nat → Int64) (x y : Int32) (R M : Nat) (hR : I 0 = nI R) (hR1 : 1 ≤ R) (hR5 : R ≤ 5) (hM : I 1 = nI M) (hM1 : 1 ≤ M) (hM4 : M ≤ 4) : Met l yX10_fraction wsX10_fraction ({ frames := 3, cells := 0, slots := 0, locals := 79 }) (va_Pc [.ref (h 0), .int x, .int y] (xPre (dC, dI) (rW h cs I L A Q) (tysA cs) sz)) (va_Ql (fun (r : Int64) (u : RS) => ∃ f17 : Nat → Int32, ∃ f18 : Nat → Int32, ∃ f20 : Nat → Int32, ∃ x21 : Int64, ∃ x22 : Int64, ∃ q19 : Nat → Int64, ((∃ i j : Nat, i < M ∧ j < 2 ∧ x = nI i ∧ y = nI j ∧ laid (A 3) R M f17 f18 ∧ (worthF f17 M (nI (2 ^ M - 1)) = 0 → r = -1000000000000002)) ∨ (r = -1000000000000001 ∧ (∀ i j : Nat, i < M → j < 2 → x = nI i → y = nI j → False) ∧ f17 = A 17 ∧ f18 = A 18 ∧ f20 = A 20 ∧ x21 = L 21 ∧ x22 = L 22 ∧ q19 = Q 19)) ∧ u = (I, (va_up (va_up L 21 x21) 22 x22), (va_up (va_up (va_up A 17 f17) 18 f18) 20 f20), (va_up Q 19 q19))) (xB (dC, dI) (tysA cs) (va_A (rW h cs I L A Q) sz) (fun u : RS => rW h cs u.1 u.2.1 u.2.2.1 u.2.2.2)) (va_A (rW h cs I L A Q) sz)) 0 0 (va_A (rW h cs I L A Q) sz) := by
  refine Met.ofW (cc := cX10_fraction) (maxL := 5) (ret := (some .long)) (by decide) rfl ?_
  intro p e s m args below meth c s₁ B hml hv
  obtain ⟨rfl, hsz, hP, hK, hD0, hN⟩ := hv
  have hx := B.exec
  have hb := B.bytes
  have hr := B.returns
  have hts := atoms_spec (ws := wsX10_fraction) B.pre
  have hown : s.vm.findClass RX10 = some m.cls := findClass_of_methodNamed B.named
  have hlocks := B.notSynchronized
  subst hsz
  have hD := hD0.self (sz := s.heap.size)
  generalize hAe : va_A (rW h cs I L A Q) s.heap.size = A0 at hD ⊢
  have hA : ∀ q : Nat, s.heap.size ≤ q → A0 q := fun q h => by rw [← hAe]; exact Or.inr h
  have hl := lv_entry ([.ref (h 0), .int x, .int y]) (n := 5) (Nat.le_of_ble_eq_true rfl)
  rw [lg_entry_eq]
  generalize (lg_sl ([.ref (h 0), .int x, .int y]) ++ List.replicate (5 - (lg_sl ([.ref (h 0), .int x, .int y])).length) Slot.unset).toArray = ls at hl ⊢
  have hl : lv_has ls 5 [(0, .ref (h 0)), (1, .int x), (2, .int y)] := hl
  generalize hH : s.heap = H at hP ⊢
  have hS : va_S A0 s.heap H [] := by rw [← hH]; exact va_S.rf
  have hinX10 : ∀ w ∈ wsX100, w ∈ wsX10_fraction := by decide +kernel
  refine lv_aload_n hx hb dX10_fraction_0 rfl (lv_at hl 0 rfl) ?_
  refine lv_iload_n hx hb dX10_fraction_1 rfl (lv_at hl 1 rfl) ?_
  refine xj_i (wc := (rW h cs I L A Q)) (wr := ([] : va_W)) hP hD hS hA [0, 1, 2, 3, 4, 5, 6, 7, 8, 9, 10, 11, 12, 13, 14, 15, 16] [] rfl rfl (by decide +kernel) (by decide +kernel) (va_runV (As := [.int x]) (rest := []) ⟨hx, hb, hml, hown, hts⟩ (k_X10_isColumn l dC dI h cs H.size I L A Q x M hM (by first | assumption | omega | exact hM1) (by first | assumption | omega | exact hM4)) (cwV 1 hts gX10_fraction_X10_isColumn rfl rfl rfl (by decide +kernel) ⟨Nat.le_of_ble_eq_true rfl, Nat.le_of_ble_eq_true rfl⟩) (xpV (wc := (rW h cs I L A Q)) hP hD hK hN [0, 1, 2, 3, 4, 5, 6, 7, 8, 9, 10, 11, 12, 13, 14, 15, 16] rfl (by decide) 0 (ci := 10) rfl rfl _) rfl rfl hl.1 rfl (lv_room (Nat.le_of_ble_eq_true rfl)) dX10_fraction_2 ⟨Nat.zero_le _, Nat.zero_le _⟩) (fun r_2 u_1 H locs hw hP hD hS => ?_)
  obtain ⟨hf_3, rfl⟩ := hw
  have hP : va_P (dC, dI) vwCl (rW h cs I L A Q) H := hP
  have hD : va_D A0 (rW h cs I L A Q) := hD
  rcases hf_3 with ⟨rfl, i_4, hi_5, hx_6⟩ | ⟨rfl, hn_7⟩
  · skip
    rw [hx_6] at hl
    refine xs_eqF (tgt := 18) hx hb dX10_fraction_5 (by decide) (by decide) ?_
    refine lv_iload_n hx hb dX10_fraction_8 rfl (lv_at hl 2 rfl) ?_
    refine lv_i2l (v := y.toInt64) hx hb dX10_fraction_9 rfl ?_
    refine lv_lconst (v := 0) hx hb dX10_fraction_10 rfl ?_
    refine lv_lconst (v := 1) hx hb dX10_fraction_11 rfl ?_
    refine xj_i (wc := ([] : va_W)) (wr := (rW h cs I L A Q)) hP hD hS hA [] [0, 1, 2, 3, 4, 5, 6, 7, 8, 9, 10, 11, 12, 13, 14, 15, 16] rfl rfl (by decide +kernel) (by decide +kernel) (va_runS (As := [.long y.toInt64, .long (0 : Int64), .long (1 : Int64)]) (rest := []) ⟨hx, hb, hml, hown, hts⟩ (k_X10_in l dC dI h cs H.size I L A Q y.toInt64 (0 : Int64) (1 : Int64)) (va_cwS 3 hts gX10_fraction_X10_in rfl rfl rfl (by decide +kernel) ⟨Nat.le_of_ble_eq_true rfl, Nat.le_of_ble_eq_true rfl⟩) (xpS (wc := ([] : va_W)) hP hD hK hN [] rfl (by decide) _) rfl rfl hl.1 rfl (lv_room (Nat.le_of_ble_eq_true rfl)) dX10_fraction_12 ⟨Nat.zero_le _, Nat.zero_le _⟩) (fun r_10 u_9 H locs hw hP hD hS => ?_)
    obtain ⟨hf_11, rfl⟩ := hw
    have hP : va_P (dC, dI) vwCl (rW h cs I L A Q) H := hP
    have hD : va_D A0 (rW h cs I L A Q) := hD
    rcases in_N (a := 0) (b := 1) (rfl) (rfl) hf_11 with ⟨rfl, i_12, ha_13, hb_14, hx_15⟩ | ⟨rfl, hn_16⟩
    · skip
      rw [hx_15] at hl
      refine xs_neT (tgt := 22) hx hb dX10_fraction_15 (by decide) (by decide) ?_
      refine lv_aload_n hx hb dX10_fraction_22 rfl (lv_at hl 0 rfl) ?_
      refine xj_v (wc := (rW h cs I L A Q)) (wr := ([] : va_W)) hP hD hS hA [0, 1, 2, 3, 4, 5, 6, 7, 8, 9, 10, 11, 12, 13, 14, 15, 16] [] rfl rfl (by decide +kernel) (by decide +kernel) (va_runV (As := []) (rest := []) ⟨hx, hb, hml, hown, hts⟩ (k_X10_lay l dC dI h cs H.size I L A Q R M hR (by first | assumption | omega | exact hR1) (by first | assumption | omega | exact hR5) hM (by first | assumption | omega | exact hM1) (by first | assumption | omega | exact hM4)) (cwV 0 hts gX10_fraction_X10_lay rfl rfl rfl (by decide +kernel) ⟨Nat.le_of_ble_eq_true rfl, Nat.le_of_ble_eq_true rfl⟩) (xpV (wc := (rW h cs I L A Q)) hP hD hK hN [0, 1, 2, 3, 4, 5, 6, 7, 8, 9, 10, 11, 12, 13, 14, 15, 16] rfl (by decide) 0 (ci := 10) rfl rfl _) rfl rfl hl.1 rfl (lv_room (Nat.le_of_ble_eq_true rfl)) dX10_fraction_23 ⟨Nat.zero_le _, Nat.zero_le _⟩) (fun u_18 H locs hw hP hD hS => ?_)
      obtain ⟨f17_20, f18_21, hf_22, rfl⟩ := hw
      have hP : va_P (dC, dI) vwCl (rW h cs I L (va_up (va_up A 17 f17_20) 18 f18_21) Q) H := hP
      have hD : va_D A0 (rW h cs I L (va_up (va_up A 17 f17_20) 18 f18_21) Q) := hD
      refine lv_aload_n hx hb dX10_fraction_26 rfl (lv_at hl 0 rfl) ?_
      refine lv_aload_n hx hb dX10_fraction_27 rfl (lv_at hl 0 rfl) ?_
      refine xj_i (wc := (rW h cs I L (va_up (va_up A 17 f17_20) 18 f18_21) Q)) (wr := ([] : va_W)) hP hD hS hA [0, 1, 2, 3, 4, 5, 6, 7, 8, 9, 10, 11, 12, 13, 14, 15, 16] [] rfl rfl (by decide +kernel) (by decide +kernel) (va_runV (As := []) (rest := [.ref (h 0)]) ⟨hx, hb, hml, hown, hts⟩ (k_X10_whole l dC dI h cs H.size I L (va_up (va_up A 17 f17_20) 18 f18_21) Q M hM (by first | assumption | omega | exact hM1) (by first | assumption | omega | exact hM4)) (cwV 0 hts gX10_fraction_X10_whole rfl rfl rfl (by decide +kernel) ⟨Nat.le_of_ble_eq_true rfl, Nat.le_of_ble_eq_true rfl⟩) (xpV (wc := (rW h cs I L (va_up (va_up A 17 f17_20) 18 f18_21) Q)) hP hD hK hN [0, 1, 2, 3, 4, 5, 6, 7, 8, 9, 10, 11, 12, 13, 14, 15, 16] rfl (by decide) 0 (ci := 10) rfl rfl _) rfl rfl hl.1 rfl (lv_room (Nat.le_of_ble_eq_true rfl)) dX10_fraction_28 ⟨Nat.zero_le _, Nat.zero_le _⟩) (fun r_24 u_23 H locs hw hP hD hS => ?_)
      obtain ⟨hf_25, rfl⟩ := hw
      have hP : va_P (dC, dI) vwCl (rW h cs I L (va_up (va_up A 17 f17_20) 18 f18_21) Q) H := hP
      have hD : va_D A0 (rW h cs I L (va_up (va_up A 17 f17_20) 18 f18_21) Q) := hD
      obtain rfl := hf_25
      refine xj_l (wc := (rW h cs I L (va_up (va_up A 17 f17_20) 18 f18_21) Q)) (wr := ([] : va_W)) hP hD hS hA [0, 1, 2, 3, 4, 5, 6, 7, 8, 9, 10, 11, 12, 13, 14, 15, 16] [] rfl rfl (by decide +kernel) (by decide +kernel) (va_runV (As := [.int (nI (2 ^ M - 1))]) (rest := []) ⟨hx, hb, hml, hown, hts⟩ (k_X10_worthOf l dC dI h cs H.size I L (va_up (va_up A 17 f17_20) 18 f18_21) Q (nI (2 ^ M - 1)) M hM (by first | assumption | omega | exact hM1) (by first | assumption | omega | exact hM4)) (cwV 1 hts gX10_fraction_X10_worthOf rfl rfl rfl (by decide +kernel) ⟨Nat.le_of_ble_eq_true rfl, Nat.le_of_ble_eq_true rfl⟩) (xpV (wc := (rW h cs I L (va_up (va_up A 17 f17_20) 18 f18_21) Q)) hP hD hK hN [0, 1, 2, 3, 4, 5, 6, 7, 8, 9, 10, 11, 12, 13, 14, 15, 16] rfl (by decide) 0 (ci := 10) rfl rfl _) rfl rfl hl.1 rfl (lv_room (Nat.le_of_ble_eq_true rfl)) dX10_fraction_31 ⟨Nat.zero_le _, Nat.zero_le _⟩) (fun r_27 u_26 H locs hw hP hD hS => ?_)
      obtain ⟨q19_28, hf_29, rfl⟩ := hw
      have hP : va_P (dC, dI) vwCl (rW h cs I L (va_up (va_up A 17 f17_20) 18 f18_21) (va_up Q 19 q19_28)) H := hP
      have hD : va_D A0 (rW h cs I L (va_up (va_up A 17 f17_20) 18 f18_21) (va_up Q 19 q19_28)) := hD
      obtain rfl := hf_29
      refine lv_lconst (v := 0) hx hb dX10_fraction_34 rfl ?_
      refine xl_ne (tgt := 43) hx hb dX10_fraction_35 dX10_fraction_36 (by decide) (fun c_35_29 => ?_) (fun c_35_29 => ?_)
      · skip
        have hwz : ¬ worthF f17_20 M (nI (2 ^ M - 1)) = 0 := c_35_29
        refine lv_aload_n hx hb dX10_fraction_43 rfl (lv_at hl 0 rfl) ?_
        refine xj_v (wc := (rW h cs I L (va_up (va_up A 17 f17_20) 18 f18_21) (va_up Q 19 q19_28))) (wr := ([] : va_W)) hP hD hS hA [0, 1, 2, 3, 4, 5, 6, 7, 8, 9, 10, 11, 12, 13, 14, 15, 16] [] rfl rfl (by decide +kernel) (by decide +kernel) (va_runV (As := []) (rest := []) ⟨hx, hb, hml, hown, hts⟩ (k_X10_meetHeard l dC dI h cs H.size I L (va_up (va_up A 17 f17_20) 18 f18_21) (va_up Q 19 q19_28) R hR (by first | assumption | omega | exact hR1) (by first | assumption | omega | exact hR5)) (cwV 0 hts gX10_fraction_X10_meetHeard rfl rfl rfl (by decide +kernel) ⟨Nat.le_of_ble_eq_true rfl, Nat.le_of_ble_eq_true rfl⟩) (xpV (wc := (rW h cs I L (va_up (va_up A 17 f17_20) 18 f18_21) (va_up Q 19 q19_28))) hP hD hK hN [0, 1, 2, 3, 4, 5, 6, 7, 8, 9, 10, 11, 12, 13, 14, 15, 16] rfl (by decide) 0 (ci := 10) rfl rfl _) rfl rfl hl.1 rfl (lv_room (Nat.le_of_ble_eq_true rfl)) dX10_fraction_44 ⟨Nat.zero_le _, Nat.zero_le _⟩) (fun u_31 H locs hw hP hD hS => ?_)
        obtain ⟨f20_33, hf_34, rfl⟩ := hw
        have hP : va_P (dC, dI) vwCl (rW h cs I L (va_up (va_up (va_up A 17 f17_20) 18 f18_21) 20 f20_33) (va_up Q 19 q19_28)) H := hP
        have hD : va_D A0 (rW h cs I L (va_up (va_up (va_up A 17 f17_20) 18 f18_21) 20 f20_33) (va_up Q 19 q19_28)) := hD
        refine lv_aload_n hx hb dX10_fraction_47 rfl (lv_at hl 0 rfl) ?_
        refine lv_iload_n hx hb dX10_fraction_48 rfl (lv_at hl 1 rfl) ?_
        refine xj_v (wc := (rW h cs I L (va_up (va_up (va_up A 17 f17_20) 18 f18_21) 20 f20_33) (va_up Q 19 q19_28))) (wr := ([] : va_W)) hP hD hS hA [0, 1, 2, 3, 4, 5, 6, 7, 8, 9, 10, 11, 12, 13, 14, 15, 16] [] rfl rfl (by decide +kernel) (by decide +kernel) (va_runV (As := [.int (nI i_4)]) (rest := []) ⟨hx, hb, hml, hown, hts⟩ (k_X10_fractionOf l dC dI h cs H.size I L (va_up (va_up (va_up A 17 f17_20) 18 f18_21) 20 f20_33) (va_up Q 19 q19_28) i_4 M (by first | assumption | omega) hM (by first | assumption | omega | exact hM1) (by first | assumption | omega | exact hM4)) (cwV 1 hts gX10_fraction_X10_fractionOf rfl rfl rfl (by decide +kernel) ⟨Nat.le_of_ble_eq_true rfl, Nat.le_of_ble_eq_true rfl⟩) (xpV (wc := (rW h cs I L (va_up (va_up (va_up A 17 f17_20) 18 f18_21) 20 f20_33) (va_up Q 19 q19_28))) hP hD hK hN [0, 1, 2, 3, 4, 5, 6, 7, 8, 9, 10, 11, 12, 13, 14, 15, 16] rfl (by decide) 0 (ci := 10) rfl rfl _) rfl rfl hl.1 rfl (lv_room (Nat.le_of_ble_eq_true rfl)) dX10_fraction_49 ⟨Nat.zero_le _, Nat.zero_le _⟩) (fun u_35 H locs hw hP hD hS => ?_)
        obtain ⟨x21_37, x22_38, q19_39, hf_40, rfl⟩ := hw
        have hP : va_P (dC, dI) vwCl (rW h cs I (va_up (va_up L 21 x21_37) 22 x22_38) (va_up (va_up (va_up A 17 f17_20) 18 f18_21) 20 f20_33) (va_up Q 19 q19_39)) H := hP
        have hD : va_D A0 (rW h cs I (va_up (va_up L 21 x21_37) 22 x22_38) (va_up (va_up (va_up A 17 f17_20) 18 f18_21) 20 f20_33) (va_up Q 19 q19_39)) := hD
        obtain ⟨rfl, rfl⟩ := hf_40
        refine lv_aload_n hx hb dX10_fraction_52 rfl (lv_at hl 0 rfl) ?_
        refine va_get (D := (dC, dI)) (ci := 10) (v := .long (detM M (fracM f17_20 f20_33 i_4))) (C := RX10) (T := TX10) (N := 28) hx hb hts hinX10 hown hK hP 0 rfl rfl 21 (by decide) (hts (.fieldLink RX10 194 "MixedWordsModel" "above" "J") (by decide +kernel)) (fun _ h9 => h9) rfl dX10_fraction_53 ?_
        refine lv_aload_n hx hb dX10_fraction_56 rfl (lv_at hl 0 rfl) ?_
        refine va_get (D := (dC, dI)) (ci := 10) (v := .long (worthF f17_20 M (nI (2 ^ M - 1)))) (C := RX10) (T := TX10) (N := 28) hx hb hts hinX10 hown hK hP 0 rfl rfl 22 (by decide) (hts (.fieldLink RX10 190 "MixedWordsModel" "below" "J") (by decide +kernel)) (fun _ h9 => h9) rfl dX10_fraction_57 ?_
        refine xj_l (wc := ([] : va_W)) (wr := (rW h cs I (va_up (va_up L 22 (worthF f17_20 M (nI (2 ^ M - 1)))) 21 (detM M (fracM f17_20 f20_33 i_4))) (va_up (va_up (va_up A 17 f17_20) 18 f18_21) 20 f20_33) (va_up Q 19 q19_39))) hP hD hS hA [] [0, 1, 2, 3, 4, 5, 6, 7, 8, 9, 10, 11, 12, 13, 14, 15, 16] rfl rfl (by decide +kernel) (by decide +kernel) (va_runS (As := [.long (detM M (fracM f17_20 f20_33 i_4)), .long (worthF f17_20 M (nI (2 ^ M - 1)))]) (rest := []) ⟨hx, hb, hml, hown, hts⟩ (k_X10_common l dC dI h cs H.size I L A Q (detM M (fracM f17_20 f20_33 i_4)) (worthF f17_20 M (nI (2 ^ M - 1)))) (va_cwS 2 hts gX10_fraction_X10_common rfl rfl rfl (by decide +kernel) ⟨Nat.le_of_ble_eq_true rfl, Nat.le_of_ble_eq_true rfl⟩) (xpS (wc := ([] : va_W)) hP hD hK hN [] rfl (by decide) _) rfl rfl hl.1 rfl (lv_room (Nat.le_of_ble_eq_true rfl)) dX10_fraction_60 ⟨Nat.zero_le _, Nat.zero_le _⟩) (fun r_42 u_41 H locs hw hP hD hS => ?_)
        obtain ⟨hf_43, rfl⟩ := hw
        have hP : va_P (dC, dI) vwCl (rW h cs I (va_up (va_up L 22 (worthF f17_20 M (nI (2 ^ M - 1)))) 21 (detM M (fracM f17_20 f20_33 i_4))) (va_up (va_up (va_up A 17 f17_20) 18 f18_21) 20 f20_33) (va_up Q 19 q19_39)) H := hP
        have hD : va_D A0 (rW h cs I (va_up (va_up L 22 (worthF f17_20 M (nI (2 ^ M - 1)))) 21 (detM M (fracM f17_20 f20_33 i_4))) (va_up (va_up (va_up A 17 f17_20) 18 f18_21) 20 f20_33) (va_up Q 19 q19_39)) := hD
        have hby : ¬ r_42 = 0 := hf_43 hwz
        refine lv_lstore_n (lv' := [(3, .long r_42), (0, .ref (h 0)), (1, .int (nI i_4)), (2, .int (nI i_12))]) hx hb dX10_fraction_63 rfl hl (by decide) rfl (fun ls hl => ?_)
        refine lv_iload_n hx hb dX10_fraction_64 rfl (lv_at hl 3 rfl) ?_
        refine xz_ne (tgt := 75) hx hb dX10_fraction_65 (by decide) (by omega) (fun c_65_43 => ?_) (fun c_65_43 => ?_)
        · skip
          refine lv_aload_n hx hb dX10_fraction_75 rfl (lv_at hl 1 rfl) ?_
          refine va_get (D := (dC, dI)) (ci := 10) (v := .long (worthF f17_20 M (nI (2 ^ M - 1)))) (C := RX10) (T := TX10) (N := 28) hx hb hts hinX10 hown hK hP 0 rfl rfl 22 (by decide) (hts (.fieldLink RX10 190 "MixedWordsModel" "below" "J") (by decide +kernel)) (fun _ h9 => h9) rfl dX10_fraction_76 ?_
          refine lv_lload_n hx hb dX10_fraction_79 rfl (lv_at hl 0 rfl) ?_
          refine lv_ldiv hx hb dX10_fraction_80 (hby) ?_
          exact xr_l (v := ((worthF f17_20 M (nI (2 ^ M - 1))) / r_42)) hx hb hr hlocks hK hS dX10_fraction_81 (I, (va_up (va_up L 21 (detM M (fracM f17_20 f20_33 i_4))) 22 (worthF f17_20 M (nI (2 ^ M - 1)))), (va_up (va_up (va_up A 17 f17_20) 18 f18_21) 20 f20_33), (va_up Q 19 q19_39)) ⟨f17_20, f18_21, f20_33, (detM M (fracM f17_20 f20_33 i_4)), (worthF f17_20 M (nI (2 ^ M - 1))), q19_39, (Or.inl ⟨i_4, i_12, hi_5, by omega, hx_6, hx_15, hf_22, fun g => absurd g hwz⟩), rfl⟩ hP hD
        · skip
          refine lv_aload_n hx hb dX10_fraction_68 rfl (lv_at hl 1 rfl) ?_
          refine va_get (D := (dC, dI)) (ci := 10) (v := .long (detM M (fracM f17_20 f20_33 i_4))) (C := RX10) (T := TX10) (N := 28) hx hb hts hinX10 hown hK hP 0 rfl rfl 21 (by decide) (hts (.fieldLink RX10 194 "MixedWordsModel" "above" "J") (by decide +kernel)) (fun _ h9 => h9) rfl dX10_fraction_69 ?_
          refine lv_goto (tgt := 79) hx hb dX10_fraction_72 (by decide) ?_
          refine lv_lload_n hx hb dX10_fraction_79 rfl (lv_at hl 0 rfl) ?_
          refine lv_ldiv hx hb dX10_fraction_80 (hby) ?_
          exact xr_l (v := ((detM M (fracM f17_20 f20_33 i_4)) / r_42)) hx hb hr hlocks hK hS dX10_fraction_81 (I, (va_up (va_up L 21 (detM M (fracM f17_20 f20_33 i_4))) 22 (worthF f17_20 M (nI (2 ^ M - 1)))), (va_up (va_up (va_up A 17 f17_20) 18 f18_21) 20 f20_33), (va_up Q 19 q19_39)) ⟨f17_20, f18_21, f20_33, (detM M (fracM f17_20 f20_33 i_4)), (worthF f17_20 M (nI (2 ^ M - 1))), q19_39, (Or.inl ⟨i_4, i_12, hi_5, by omega, hx_6, hx_15, hf_22, fun g => absurd g hwz⟩), rfl⟩ hP hD
      · skip
        refine lv_ldc2 (v := (-1000000000000002)) hx hb hown (hts (.constantLong RX10 213 (-1000000000000002)) (by decide +kernel)) dX10_fraction_39 ?_
        exact xr_l (v := (-1000000000000002 : Int64)) hx hb hr hlocks hK hS dX10_fraction_42 (I, (va_up (va_up L 21 (L 21)) 22 (L 22)), (va_up (va_up (va_up A 17 f17_20) 18 f18_21) 20 (A 20)), (va_up Q 19 q19_28)) ⟨f17_20, f18_21, (A 20), (L 21), (L 22), q19_28, (Or.inl ⟨i_4, i_12, hi_5, by omega, hx_6, hx_15, hf_22, fun _ => rfl⟩), rfl⟩ hP hD
    · skip
      refine xs_neF (tgt := 22) hx hb dX10_fraction_15 (by decide) (by decide) ?_
      refine lv_ldc2 (v := (-1000000000000001)) hx hb hown (hts (.constantLong RX10 211 (-1000000000000001)) (by decide +kernel)) dX10_fraction_18 ?_
      exact xr_l (v := (-1000000000000001 : Int64)) hx hb hr hlocks hK hS dX10_fraction_21 (I, (va_up (va_up L 21 (L 21)) 22 (L 22)), (va_up (va_up (va_up A 17 (A 17)) 18 (A 18)) 20 (A 20)), (va_up Q 19 (Q 19))) ⟨(A 17), (A 18), (A 20), (L 21), (L 22), (Q 19), (Or.inr ⟨rfl, fun i j a9 b9 c9 d9 => hn_16 j (by omega) (by omega) (by omega) d9, rfl, rfl, rfl, rfl, rfl, rfl⟩), rfl⟩ hP hD
  · skip
    refine xs_eqT (tgt := 18) hx hb dX10_fraction_5 (by decide) (by decide) ?_
    refine lv_ldc2 (v := (-1000000000000001)) hx hb hown (hts (.constantLong RX10 211 (-1000000000000001)) (by decide +kernel)) dX10_fraction_18 ?_
    exact xr_l (v := (-1000000000000001 : Int64)) hx hb hr hlocks hK hS dX10_fraction_21 (I, (va_up (va_up L 21 (L 21)) 22 (L 22)), (va_up (va_up (va_up A 17 (A 17)) 18 (A 18)) 20 (A 20)), (va_up Q 19 (Q 19))) ⟨(A 17), (A 18), (A 20), (L 21), (L 22), (Q 19), (Or.inr ⟨rfl, fun i j a9 b9 c9 d9 => hn_7 i a9 c9, rfl, rfl, rfl, rfl, rfl, rfl⟩), rfl⟩ hP hD
set_option maxRecDepth 20000 in
theorem ggX10_chosen_X10_in : GoodIn wsX10_chosen wsX10_in := goodIn_r _ [6] rfl (by decide +kernel)
set_option maxRecDepth 20000 in
theorem gX10_chosen_X10_in : GoodIn wsX10_chosen (va_wsS RX10 77 yX10_in wsX10_in) := goodIn_app (goodIn_of _ (by decide +kernel)) ggX10_chosen_X10_in
set_option maxRecDepth 20000 in
theorem ggX10_chosen_X10_lay : GoodIn wsX10_chosen wsX10_lay := goodIn_r _ [10, 11, 1, 12, 13, 14, 36, 37, 38, 39, 40, 41, 42, 43, 44, 45, 46, 47, 48, 49, 50, 51, 52, 53, 54, 55, 56, 57, 58, 59, 60, 61, 62, 63] rfl (by decide +kernel)
set_option maxRecDepth 20000 in
theorem gX10_chosen_X10_lay : GoodIn wsX10_chosen (wsV RX10 172 RX10 yX10_lay wsX10_lay) := goodIn_app (goodIn_of _ (by decide +kernel)) ggX10_chosen_X10_lay
set_option maxRecDepth 20000 in
theorem ggX10_chosen_X10_whole : GoodIn wsX10_chosen wsX10_whole := goodIn_r _ [18, 1, 36, 37, 38, 39, 40, 41, 42, 43, 44, 45, 46, 47, 48, 49, 50, 51, 52, 53, 54, 55, 56, 57, 58, 59, 60, 61, 62, 63] rfl (by decide +kernel)
set_option maxRecDepth 20000 in
theorem gX10_chosen_X10_whole : GoodIn wsX10_chosen (wsV RX10 182 RX10 yX10_whole wsX10_whole) := goodIn_app (goodIn_of _ (by decide +kernel)) ggX10_chosen_X10_whole
set_option maxRecDepth 20000 in
theorem ggX10_chosen_X10_worthOf : GoodIn wsX10_chosen wsX10_worthOf := goodIn_r _ [22, 1, 23, 24, 25, 26, 5, 27, 11, 28, 29, 30, 31, 36, 37, 38, 39, 40, 41, 42, 43, 44, 45, 46, 47, 48, 49, 50, 51, 52, 53, 54, 55, 56, 57, 58, 59, 60, 61, 62, 63] rfl (by decide +kernel)
set_option maxRecDepth 20000 in
theorem gX10_chosen_X10_worthOf : GoodIn wsX10_chosen (wsV RX10 187 RX10 yX10_worthOf wsX10_worthOf) := goodIn_app (goodIn_of _ (by decide +kernel)) ggX10_chosen_X10_worthOf
set_option maxRecDepth 20000 in
theorem ggX10_chosen_X10_isAhead : GoodIn wsX10_chosen wsX10_isAhead := goodIn_r _ [35, 1, 36, 37, 38, 39, 40, 41, 42, 43, 44, 45, 46, 47, 48, 49, 50, 51, 52, 53, 54, 55, 56, 57, 58, 59, 60, 61, 62, 63] rfl (by decide +kernel)
set_option maxRecDepth 20000 in
theorem gX10_chosen_X10_isAhead : GoodIn wsX10_chosen (wsV RX10 235 RX10 yX10_isAhead wsX10_isAhead) := goodIn_app (goodIn_of _ (by decide +kernel)) ggX10_chosen_X10_isAhead
theorem bdX10_chosen_0 : (decode cX10_chosen 0 = .ok (.iload_n 1, 1)) ∧ (decode cX10_chosen 1 = .ok (.i2l, 1)) ∧ (decode cX10_chosen 2 = .ok (.lconst 1, 1)) ∧ (decode cX10_chosen 3 = .ok (.aload_n 0, 1)) ∧ (decode cX10_chosen 4 = .ok (.getfield 13, 3)) ∧ (decode cX10_chosen 7 = .ok (.i2l, 1)) ∧ (decode cX10_chosen 8 = .ok (.invokestatic 77, 3)) ∧ (decode cX10_chosen 11 = .ok (.ifCond .ne 5, 3)) ∧ (decode cX10_chosen 14 = .ok (.iconst (-1), 1)) ∧ (decode cX10_chosen 15 = .ok (.ireturn, 1)) ∧ (decode cX10_chosen 16 = .ok (.aload_n 0, 1)) ∧ (decode cX10_chosen 17 = .ok (.invokevirtual 172, 3)) ∧ (decode cX10_chosen 20 = .ok (.iconst 0, 1)) ∧ (decode cX10_chosen 21 = .ok (.istore_n 2, 1)) ∧ (decode cX10_chosen 22 = .ok (.ldc2_w 185, 3)) ∧ (decode cX10_chosen 25 = .ok (.lstore_n 3, 1)) := by decide +kernel
theorem dX10_chosen_0 : decode cX10_chosen 0 = .ok (.iload_n 1, 1) := bdX10_chosen_0.1
theorem dX10_chosen_1 : decode cX10_chosen 1 = .ok (.i2l, 1) := bdX10_chosen_0.2.1
theorem dX10_chosen_2 : decode cX10_chosen 2 = .ok (.lconst 1, 1) := bdX10_chosen_0.2.2.1
theorem dX10_chosen_3 : decode cX10_chosen 3 = .ok (.aload_n 0, 1) := bdX10_chosen_0.2.2.2.1
theorem dX10_chosen_4 : decode cX10_chosen 4 = .ok (.getfield 13, 3) := bdX10_chosen_0.2.2.2.2.1
theorem dX10_chosen_7 : decode cX10_chosen 7 = .ok (.i2l, 1) := bdX10_chosen_0.2.2.2.2.2.1
theorem dX10_chosen_8 : decode cX10_chosen 8 = .ok (.invokestatic 77, 3) := bdX10_chosen_0.2.2.2.2.2.2.1
theorem dX10_chosen_11 : decode cX10_chosen 11 = .ok (.ifCond .ne 5, 3) := bdX10_chosen_0.2.2.2.2.2.2.2.1
theorem dX10_chosen_14 : decode cX10_chosen 14 = .ok (.iconst (-1), 1) := bdX10_chosen_0.2.2.2.2.2.2.2.2.1
theorem dX10_chosen_15 : decode cX10_chosen 15 = .ok (.ireturn, 1) := bdX10_chosen_0.2.2.2.2.2.2.2.2.2.1
theorem dX10_chosen_16 : decode cX10_chosen 16 = .ok (.aload_n 0, 1) := bdX10_chosen_0.2.2.2.2.2.2.2.2.2.2.1
theorem dX10_chosen_17 : decode cX10_chosen 17 = .ok (.invokevirtual 172, 3) := bdX10_chosen_0.2.2.2.2.2.2.2.2.2.2.2.1
theorem dX10_chosen_20 : decode cX10_chosen 20 = .ok (.iconst 0, 1) := bdX10_chosen_0.2.2.2.2.2.2.2.2.2.2.2.2.1
theorem dX10_chosen_21 : decode cX10_chosen 21 = .ok (.istore_n 2, 1) := bdX10_chosen_0.2.2.2.2.2.2.2.2.2.2.2.2.2.1
theorem dX10_chosen_22 : decode cX10_chosen 22 = .ok (.ldc2_w 185, 3) := bdX10_chosen_0.2.2.2.2.2.2.2.2.2.2.2.2.2.2.1
theorem dX10_chosen_25 : decode cX10_chosen 25 = .ok (.lstore_n 3, 1) := bdX10_chosen_0.2.2.2.2.2.2.2.2.2.2.2.2.2.2.2
theorem bdX10_chosen_26 : (decode cX10_chosen 26 = .ok (.iconst 1, 1)) ∧ (decode cX10_chosen 27 = .ok (.istore 5, 2)) ∧ (decode cX10_chosen 29 = .ok (.iload 5, 2)) ∧ (decode cX10_chosen 31 = .ok (.aload_n 0, 1)) ∧ (decode cX10_chosen 32 = .ok (.invokevirtual 182, 3)) ∧ (decode cX10_chosen 35 = .ok (.if_icmp .gt 86, 3)) ∧ (decode cX10_chosen 38 = .ok (.iconst 0, 1)) ∧ (decode cX10_chosen 39 = .ok (.istore 6, 2)) ∧ (decode cX10_chosen 41 = .ok (.iconst 0, 1)) ∧ (decode cX10_chosen 42 = .ok (.istore 7, 2)) ∧ (decode cX10_chosen 44 = .ok (.iload 7, 2)) ∧ (decode cX10_chosen 46 = .ok (.aload_n 0, 1)) ∧ (decode cX10_chosen 47 = .ok (.getfield 13, 3)) ∧ (decode cX10_chosen 50 = .ok (.if_icmp .ge 21, 3)) ∧ (decode cX10_chosen 53 = .ok (.iload 6, 2)) ∧ (decode cX10_chosen 55 = .ok (.iload 5, 2)) := by decide +kernel
theorem dX10_chosen_26 : decode cX10_chosen 26 = .ok (.iconst 1, 1) := bdX10_chosen_26.1
theorem dX10_chosen_27 : decode cX10_chosen 27 = .ok (.istore 5, 2) := bdX10_chosen_26.2.1
theorem dX10_chosen_29 : decode cX10_chosen 29 = .ok (.iload 5, 2) := bdX10_chosen_26.2.2.1
theorem dX10_chosen_31 : decode cX10_chosen 31 = .ok (.aload_n 0, 1) := bdX10_chosen_26.2.2.2.1
theorem dX10_chosen_32 : decode cX10_chosen 32 = .ok (.invokevirtual 182, 3) := bdX10_chosen_26.2.2.2.2.1
theorem dX10_chosen_35 : decode cX10_chosen 35 = .ok (.if_icmp .gt 86, 3) := bdX10_chosen_26.2.2.2.2.2.1
theorem dX10_chosen_38 : decode cX10_chosen 38 = .ok (.iconst 0, 1) := bdX10_chosen_26.2.2.2.2.2.2.1
theorem dX10_chosen_39 : decode cX10_chosen 39 = .ok (.istore 6, 2) := bdX10_chosen_26.2.2.2.2.2.2.2.1
theorem dX10_chosen_41 : decode cX10_chosen 41 = .ok (.iconst 0, 1) := bdX10_chosen_26.2.2.2.2.2.2.2.2.1
theorem dX10_chosen_42 : decode cX10_chosen 42 = .ok (.istore 7, 2) := bdX10_chosen_26.2.2.2.2.2.2.2.2.2.1
theorem dX10_chosen_44 : decode cX10_chosen 44 = .ok (.iload 7, 2) := bdX10_chosen_26.2.2.2.2.2.2.2.2.2.2.1
theorem dX10_chosen_46 : decode cX10_chosen 46 = .ok (.aload_n 0, 1) := bdX10_chosen_26.2.2.2.2.2.2.2.2.2.2.2.1
theorem dX10_chosen_47 : decode cX10_chosen 47 = .ok (.getfield 13, 3) := bdX10_chosen_26.2.2.2.2.2.2.2.2.2.2.2.2.1
theorem dX10_chosen_50 : decode cX10_chosen 50 = .ok (.if_icmp .ge 21, 3) := bdX10_chosen_26.2.2.2.2.2.2.2.2.2.2.2.2.2.1
theorem dX10_chosen_53 : decode cX10_chosen 53 = .ok (.iload 6, 2) := bdX10_chosen_26.2.2.2.2.2.2.2.2.2.2.2.2.2.2.1
theorem dX10_chosen_55 : decode cX10_chosen 55 = .ok (.iload 5, 2) := bdX10_chosen_26.2.2.2.2.2.2.2.2.2.2.2.2.2.2.2
theorem bdX10_chosen_57 : (decode cX10_chosen 57 = .ok (.iload 7, 2)) ∧ (decode cX10_chosen 59 = .ok (.ishr, 1)) ∧ (decode cX10_chosen 60 = .ok (.iconst 1, 1)) ∧ (decode cX10_chosen 61 = .ok (.iand, 1)) ∧ (decode cX10_chosen 62 = .ok (.iadd, 1)) ∧ (decode cX10_chosen 63 = .ok (.istore 6, 2)) ∧ (decode cX10_chosen 65 = .ok (.iinc 7 1, 3)) ∧ (decode cX10_chosen 68 = .ok (.goto (-24), 3)) ∧ (decode cX10_chosen 71 = .ok (.iload 6, 2)) ∧ (decode cX10_chosen 73 = .ok (.iload_n 1, 1)) ∧ (decode cX10_chosen 74 = .ok (.if_icmp .ne 41, 3)) ∧ (decode cX10_chosen 77 = .ok (.aload_n 0, 1)) ∧ (decode cX10_chosen 78 = .ok (.iload 5, 2)) ∧ (decode cX10_chosen 80 = .ok (.invokevirtual 187, 3)) ∧ (decode cX10_chosen 83 = .ok (.lstore 7, 2)) ∧ (decode cX10_chosen 85 = .ok (.lload 7, 2)) := by decide +kernel
theorem dX10_chosen_57 : decode cX10_chosen 57 = .ok (.iload 7, 2) := bdX10_chosen_57.1
theorem dX10_chosen_59 : decode cX10_chosen 59 = .ok (.ishr, 1) := bdX10_chosen_57.2.1
theorem dX10_chosen_60 : decode cX10_chosen 60 = .ok (.iconst 1, 1) := bdX10_chosen_57.2.2.1
theorem dX10_chosen_61 : decode cX10_chosen 61 = .ok (.iand, 1) := bdX10_chosen_57.2.2.2.1
theorem dX10_chosen_62 : decode cX10_chosen 62 = .ok (.iadd, 1) := bdX10_chosen_57.2.2.2.2.1
theorem dX10_chosen_63 : decode cX10_chosen 63 = .ok (.istore 6, 2) := bdX10_chosen_57.2.2.2.2.2.1
theorem dX10_chosen_65 : decode cX10_chosen 65 = .ok (.iinc 7 1, 3) := bdX10_chosen_57.2.2.2.2.2.2.1
theorem dX10_chosen_68 : decode cX10_chosen 68 = .ok (.goto (-24), 3) := bdX10_chosen_57.2.2.2.2.2.2.2.1
theorem dX10_chosen_71 : decode cX10_chosen 71 = .ok (.iload 6, 2) := bdX10_chosen_57.2.2.2.2.2.2.2.2.1
theorem dX10_chosen_73 : decode cX10_chosen 73 = .ok (.iload_n 1, 1) := bdX10_chosen_57.2.2.2.2.2.2.2.2.2.1
theorem dX10_chosen_74 : decode cX10_chosen 74 = .ok (.if_icmp .ne 41, 3) := bdX10_chosen_57.2.2.2.2.2.2.2.2.2.2.1
theorem dX10_chosen_77 : decode cX10_chosen 77 = .ok (.aload_n 0, 1) := bdX10_chosen_57.2.2.2.2.2.2.2.2.2.2.2.1
theorem dX10_chosen_78 : decode cX10_chosen 78 = .ok (.iload 5, 2) := bdX10_chosen_57.2.2.2.2.2.2.2.2.2.2.2.2.1
theorem dX10_chosen_80 : decode cX10_chosen 80 = .ok (.invokevirtual 187, 3) := bdX10_chosen_57.2.2.2.2.2.2.2.2.2.2.2.2.2.1
theorem dX10_chosen_83 : decode cX10_chosen 83 = .ok (.lstore 7, 2) := bdX10_chosen_57.2.2.2.2.2.2.2.2.2.2.2.2.2.2.1
theorem dX10_chosen_85 : decode cX10_chosen 85 = .ok (.lload 7, 2) := bdX10_chosen_57.2.2.2.2.2.2.2.2.2.2.2.2.2.2.2
theorem bdX10_chosen_87 : (decode cX10_chosen 87 = .ok (.lload_n 3, 1)) ∧ (decode cX10_chosen 88 = .ok (.lcmp, 1)) ∧ (decode cX10_chosen 89 = .ok (.ifCond .gt 20, 3)) ∧ (decode cX10_chosen 92 = .ok (.lload 7, 2)) ∧ (decode cX10_chosen 94 = .ok (.lload_n 3, 1)) ∧ (decode cX10_chosen 95 = .ok (.lcmp, 1)) ∧ (decode cX10_chosen 96 = .ok (.ifCond .ne 19, 3)) ∧ (decode cX10_chosen 99 = .ok (.aload_n 0, 1)) ∧ (decode cX10_chosen 100 = .ok (.iload 5, 2)) ∧ (decode cX10_chosen 102 = .ok (.iload_n 2, 1)) ∧ (decode cX10_chosen 103 = .ok (.invokevirtual 235, 3)) ∧ (decode cX10_chosen 106 = .ok (.ifCond .eq 9, 3)) ∧ (decode cX10_chosen 109 = .ok (.lload 7, 2)) ∧ (decode cX10_chosen 111 = .ok (.lstore_n 3, 1)) ∧ (decode cX10_chosen 112 = .ok (.iload 5, 2)) ∧ (decode cX10_chosen 114 = .ok (.istore_n 2, 1)) := by decide +kernel
theorem dX10_chosen_87 : decode cX10_chosen 87 = .ok (.lload_n 3, 1) := bdX10_chosen_87.1
theorem dX10_chosen_88 : decode cX10_chosen 88 = .ok (.lcmp, 1) := bdX10_chosen_87.2.1
theorem dX10_chosen_89 : decode cX10_chosen 89 = .ok (.ifCond .gt 20, 3) := bdX10_chosen_87.2.2.1
theorem dX10_chosen_92 : decode cX10_chosen 92 = .ok (.lload 7, 2) := bdX10_chosen_87.2.2.2.1
theorem dX10_chosen_94 : decode cX10_chosen 94 = .ok (.lload_n 3, 1) := bdX10_chosen_87.2.2.2.2.1
theorem dX10_chosen_95 : decode cX10_chosen 95 = .ok (.lcmp, 1) := bdX10_chosen_87.2.2.2.2.2.1
theorem dX10_chosen_96 : decode cX10_chosen 96 = .ok (.ifCond .ne 19, 3) := bdX10_chosen_87.2.2.2.2.2.2.1
theorem dX10_chosen_99 : decode cX10_chosen 99 = .ok (.aload_n 0, 1) := bdX10_chosen_87.2.2.2.2.2.2.2.1
theorem dX10_chosen_100 : decode cX10_chosen 100 = .ok (.iload 5, 2) := bdX10_chosen_87.2.2.2.2.2.2.2.2.1
theorem dX10_chosen_102 : decode cX10_chosen 102 = .ok (.iload_n 2, 1) := bdX10_chosen_87.2.2.2.2.2.2.2.2.2.1
theorem dX10_chosen_103 : decode cX10_chosen 103 = .ok (.invokevirtual 235, 3) := bdX10_chosen_87.2.2.2.2.2.2.2.2.2.2.1
theorem dX10_chosen_106 : decode cX10_chosen 106 = .ok (.ifCond .eq 9, 3) := bdX10_chosen_87.2.2.2.2.2.2.2.2.2.2.2.1
theorem dX10_chosen_109 : decode cX10_chosen 109 = .ok (.lload 7, 2) := bdX10_chosen_87.2.2.2.2.2.2.2.2.2.2.2.2.1
theorem dX10_chosen_111 : decode cX10_chosen 111 = .ok (.lstore_n 3, 1) := bdX10_chosen_87.2.2.2.2.2.2.2.2.2.2.2.2.2.1
theorem dX10_chosen_112 : decode cX10_chosen 112 = .ok (.iload 5, 2) := bdX10_chosen_87.2.2.2.2.2.2.2.2.2.2.2.2.2.2.1
theorem dX10_chosen_114 : decode cX10_chosen 114 = .ok (.istore_n 2, 1) := bdX10_chosen_87.2.2.2.2.2.2.2.2.2.2.2.2.2.2.2
theorem bdX10_chosen_115 : (decode cX10_chosen 115 = .ok (.iinc 5 1, 3)) ∧ (decode cX10_chosen 118 = .ok (.goto (-89), 3)) ∧ (decode cX10_chosen 121 = .ok (.iload_n 2, 1)) ∧ (decode cX10_chosen 122 = .ok (.ireturn, 1)) := by decide +kernel
theorem dX10_chosen_115 : decode cX10_chosen 115 = .ok (.iinc 5 1, 3) := bdX10_chosen_115.1
theorem dX10_chosen_118 : decode cX10_chosen 118 = .ok (.goto (-89), 3) := bdX10_chosen_115.2.1
theorem dX10_chosen_121 : decode cX10_chosen 121 = .ok (.iload_n 2, 1) := bdX10_chosen_115.2.2.1
theorem dX10_chosen_122 : decode cX10_chosen 122 = .ok (.ireturn, 1) := bdX10_chosen_115.2.2.2
set_option maxHeartbeats 4000000 in
set_option maxRecDepth 100000 in
theorem k_X10_chosen (l : Launch) (dC : Nat → ClassId) (dI : Nat → Nat → Nat) (h : Nat → Nat) (cs : Nat → ClassId) (sz : Nat) (I : Nat → Int32) (L : Nat → Int64) (A : Nat → Nat → Int32) (Q : Nat → Nat → Int64) (x : Int32) (R M : Nat) (hR : I 0 = nI R) (hR1 : 1 ≤ R) (hR5 : R ≤ 5) (hM : I 1 = nI M) (hM1 : 1 ≤ M) (hM4 : M ≤ 4) : Met l yX10_chosen wsX10_chosen ({ frames := 2, cells := 0, slots := 0, locals := 55 }) (va_Pc [.ref (h 0), .int x] (xPre (dC, dI) (rW h cs I L A Q) (tysA cs) sz)) (va_Qi (fun (r : Int32) (u : RS) => ∃ f17 : Nat → Int32, ∃ f18 : Nat → Int32, ∃ q19 : Nat → Int64, ((∃ i : Nat, 1 ≤ i ∧ i ≤ M ∧ x = nI i ∧ laid (A 3) R M f17 f18 ∧ ∃ w : Int64, chR f17 M i (2 ^ M - 1) r w) ∨ (r = -1 ∧ (∀ i : Nat, 1 ≤ i → i ≤ M → x ≠ nI i) ∧ f17 = A 17 ∧ f18 = A 18 ∧ q19 = Q 19)) ∧ u = (I, L, (va_up (va_up A 17 f17) 18 f18), (va_up Q 19 q19))) (xB (dC, dI) (tysA cs) (va_A (rW h cs I L A Q) sz) (fun u : RS => rW h cs u.1 u.2.1 u.2.2.1 u.2.2.2)) (va_A (rW h cs I L A Q) sz)) 0 0 (va_A (rW h cs I L A Q) sz) := by
  refine Met.ofW (cc := cX10_chosen) (maxL := 9) (ret := (some .int)) (by decide) rfl ?_
  intro p e s m args below meth c s₁ B hml hv
  obtain ⟨rfl, hsz, hP, hK, hD0, hN⟩ := hv
  have hx := B.exec
  have hb := B.bytes
  have hr := B.returns
  have hts := atoms_spec (ws := wsX10_chosen) B.pre
  have hown : s.vm.findClass RX10 = some m.cls := findClass_of_methodNamed B.named
  have hlocks := B.notSynchronized
  subst hsz
  have hD := hD0.self (sz := s.heap.size)
  generalize hAe : va_A (rW h cs I L A Q) s.heap.size = A0 at hD ⊢
  have hA : ∀ q : Nat, s.heap.size ≤ q → A0 q := fun q h => by rw [← hAe]; exact Or.inr h
  have hl := lv_entry ([.ref (h 0), .int x]) (n := 9) (Nat.le_of_ble_eq_true rfl)
  rw [lg_entry_eq]
  generalize (lg_sl ([.ref (h 0), .int x]) ++ List.replicate (9 - (lg_sl ([.ref (h 0), .int x])).length) Slot.unset).toArray = ls at hl ⊢
  have hl : lv_has ls 9 [(0, .ref (h 0)), (1, .int x)] := hl
  generalize hH : s.heap = H at hP ⊢
  have hS : va_S A0 s.heap H [] := by rw [← hH]; exact va_S.rf
  have hinX10 : ∀ w ∈ wsX100, w ∈ wsX10_chosen := by decide +kernel
  have hp2 : 1 ≤ 2 ^ M := Nat.one_le_two_pow
  have hp16 : 2 ^ M ≤ 16 := Nat.pow_le_pow_right (by decide) hM4
  refine lv_iload_n hx hb dX10_chosen_0 rfl (lv_at hl 1 rfl) ?_
  refine lv_i2l (v := x.toInt64) hx hb dX10_chosen_1 rfl ?_
  refine lv_lconst (v := 1) hx hb dX10_chosen_2 rfl ?_
  refine lv_aload_n hx hb dX10_chosen_3 rfl (lv_at hl 0 rfl) ?_
  refine va_get (D := (dC, dI)) (ci := 10) (v := .int (I 1)) (C := RX10) (T := TX10) (N := 28) hx hb hts hinX10 hown hK hP 0 rfl rfl 1 (by decide) (hts (.fieldLink RX10 13 "MixedWordsModel" "columns" "I") (by decide +kernel)) (fun _ h9 => h9) rfl dX10_chosen_4 ?_
  refine xt_i (y := nI M) (hM) ?_
  refine lv_i2l (v := (nI M).toInt64) hx hb dX10_chosen_7 rfl ?_
  refine xj_i (wc := ([] : va_W)) (wr := (rW h cs I L A Q)) hP hD hS hA [] [0, 1, 2, 3, 4, 5, 6, 7, 8, 9, 10, 11, 12, 13, 14, 15, 16] rfl rfl (by decide +kernel) (by decide +kernel) (va_runS (As := [.long x.toInt64, .long (1 : Int64), .long ((nI M).toInt64)]) (rest := []) ⟨hx, hb, hml, hown, hts⟩ (k_X10_in l dC dI h cs H.size I L A Q x.toInt64 (1 : Int64) ((nI M).toInt64)) (va_cwS 3 hts gX10_chosen_X10_in rfl rfl rfl (by decide +kernel) ⟨Nat.le_of_ble_eq_true rfl, Nat.le_of_ble_eq_true rfl⟩) (xpS (wc := ([] : va_W)) hP hD hK hN [] rfl (by decide) _) rfl rfl hl.1 rfl (lv_room (Nat.le_of_ble_eq_true rfl)) dX10_chosen_8 ⟨Nat.zero_le _, Nat.zero_le _⟩) (fun r_2 u_1 H locs hw hP hD hS => ?_)
  obtain ⟨hf_3, rfl⟩ := hw
  have hP : va_P (dC, dI) vwCl (rW h cs I L A Q) H := hP
  have hD : va_D A0 (rW h cs I L A Q) := hD
  rcases in_N (a := 1) (b := M) (rfl) (nI_L (by omega)) hf_3 with ⟨rfl, i_4, ha_5, hb_6, hx_7⟩ | ⟨rfl, hn_8⟩
  · skip
    rw [hx_7] at hl
    refine xs_neT (tgt := 16) hx hb dX10_chosen_11 (by decide) (by decide) ?_
    refine lv_aload_n hx hb dX10_chosen_16 rfl (lv_at hl 0 rfl) ?_
    refine xj_v (wc := (rW h cs I L A Q)) (wr := ([] : va_W)) hP hD hS hA [0, 1, 2, 3, 4, 5, 6, 7, 8, 9, 10, 11, 12, 13, 14, 15, 16] [] rfl rfl (by decide +kernel) (by decide +kernel) (va_runV (As := []) (rest := []) ⟨hx, hb, hml, hown, hts⟩ (k_X10_lay l dC dI h cs H.size I L A Q R M hR (by first | assumption | omega | exact hR1) (by first | assumption | omega | exact hR5) hM (by first | assumption | omega | exact hM1) (by first | assumption | omega | exact hM4)) (cwV 0 hts gX10_chosen_X10_lay rfl rfl rfl (by decide +kernel) ⟨Nat.le_of_ble_eq_true rfl, Nat.le_of_ble_eq_true rfl⟩) (xpV (wc := (rW h cs I L A Q)) hP hD hK hN [0, 1, 2, 3, 4, 5, 6, 7, 8, 9, 10, 11, 12, 13, 14, 15, 16] rfl (by decide) 0 (ci := 10) rfl rfl _) rfl rfl hl.1 rfl (lv_room (Nat.le_of_ble_eq_true rfl)) dX10_chosen_17 ⟨Nat.zero_le _, Nat.zero_le _⟩) (fun u_10 H locs hw hP hD hS => ?_)
    obtain ⟨f17_12, f18_13, hf_14, rfl⟩ := hw
    have hP : va_P (dC, dI) vwCl (rW h cs I L (va_up (va_up A 17 f17_12) 18 f18_13) Q) H := hP
    have hD : va_D A0 (rW h cs I L (va_up (va_up A 17 f17_12) 18 f18_13) Q) := hD
    refine lv_iconst (v := nI 0) hx hb dX10_chosen_20 (by decide) ?_
    refine lv_istore_n (lv' := [(2, .int (nI 0)), (0, .ref (h 0)), (1, .int (nI i_4))]) hx hb dX10_chosen_21 rfl hl (by decide) rfl (fun ls hl => ?_)
    refine lv_ldc2 (v := (-1)) hx hb hown (hts (.constantLong RX10 185 (-1)) (by decide +kernel)) dX10_chosen_22 ?_
    refine lv_lstore_n (lv' := [(3, .long (-1 : Int64)), (2, .int (nI 0)), (0, .ref (h 0)), (1, .int (nI i_4))]) hx hb dX10_chosen_25 rfl hl (by decide) rfl (fun ls hl => ?_)
    refine lv_iconst (v := nI 1) hx hb dX10_chosen_26 (by decide) ?_
    refine lv_istore (lv' := [(5, .int (nI 1)), (3, .long (-1 : Int64)), (2, .int (nI 0)), (0, .ref (h 0)), (1, .int (nI i_4))]) hx hb dX10_chosen_27 hl (by decide) rfl (fun ls hl => ?_)
    have cut_29 : ∀ (nf : Nat) (t5 : Nat) (b2 : Int32) (m3 : Int64) (q : Nat → Int64), (2 ^ M - 1 - t5) < nf → (t5 ≤ 2 ^ M - 1) → (chR f17_12 M i_4 t5 b2 m3) → ∀ (H : Heap) (locs : List Loc) (ls : Array Slot), va_P (dC, dI) vwCl (rW h cs I L (va_up (va_up A 17 f17_12) 18 f18_13) (va_up Q 19 q)) H → va_D A0 (rW h cs I L (va_up (va_up A 17 f17_12) 18 f18_13) (va_up Q 19 q)) → va_S A0 s.heap H locs → lv_has ls 9 [(0, .ref (h 0)), (1, .int (nI i_4)), (2, .int b2), (3, .long m3), (5, .int (nI (t5 + 1)))] → W p l e (headSpec wsX10_chosen ({ frames := 2, cells := 0, slots := 0, locals := 55 })).room s m ([.ref (h 0), .int x] : List Value).toArray below meth c H locs 0 0 (MQ below (va_Qi (fun (r : Int32) (u : RS) => ∃ f17 : Nat → Int32, ∃ f18 : Nat → Int32, ∃ q19 : Nat → Int64, ((∃ i : Nat, 1 ≤ i ∧ i ≤ M ∧ x = nI i ∧ laid (A 3) R M f17 f18 ∧ ∃ w : Int64, chR f17 M i (2 ^ M - 1) r w) ∨ (r = -1 ∧ (∀ i : Nat, 1 ≤ i → i ≤ M → x ≠ nI i) ∧ f17 = A 17 ∧ f18 = A 18 ∧ q19 = Q 19)) ∧ u = (I, L, (va_up (va_up A 17 f17) 18 f18), (va_up Q 19 q19))) (xB (dC, dI) (tysA cs) A0 (fun u : RS => rW h cs u.1 u.2.1 u.2.2.1 u.2.2.2)) A0) ([.ref (h 0), .int x] : List Value).toArray s 0 0 A0) (F0 m 29 ls []) := by
      intro nf
      induction nf with
      | zero => intro t5 b2 m3 q hm; exact absurd hm (Nat.not_lt_zero _)
      | succ nf ih_29 =>
        intro t5 b2 m3 q hm_29 ht_29 hch_29 H locs ls hP hD hS hl
        refine lv_iload hx hb dX10_chosen_29 (lv_at hl 4 rfl) ?_
        refine lv_aload_n hx hb dX10_chosen_31 rfl (lv_at hl 0 rfl) ?_
        refine xj_i (wc := (rW h cs I L (va_up (va_up A 17 f17_12) 18 f18_13) (va_up Q 19 q))) (wr := ([] : va_W)) hP hD hS hA [0, 1, 2, 3, 4, 5, 6, 7, 8, 9, 10, 11, 12, 13, 14, 15, 16] [] rfl rfl (by decide +kernel) (by decide +kernel) (va_runV (As := []) (rest := [.int (nI (t5 + 1))]) ⟨hx, hb, hml, hown, hts⟩ (k_X10_whole l dC dI h cs H.size I L (va_up (va_up A 17 f17_12) 18 f18_13) (va_up Q 19 q) M hM (by first | assumption | omega | exact hM1) (by first | assumption | omega | exact hM4)) (cwV 0 hts gX10_chosen_X10_whole rfl rfl rfl (by decide +kernel) ⟨Nat.le_of_ble_eq_true rfl, Nat.le_of_ble_eq_true rfl⟩) (xpV (wc := (rW h cs I L (va_up (va_up A 17 f17_12) 18 f18_13) (va_up Q 19 q))) hP hD hK hN [0, 1, 2, 3, 4, 5, 6, 7, 8, 9, 10, 11, 12, 13, 14, 15, 16] rfl (by decide) 0 (ci := 10) rfl rfl _) rfl rfl hl.1 rfl (lv_room (Nat.le_of_ble_eq_true rfl)) dX10_chosen_32 ⟨Nat.zero_le _, Nat.zero_le _⟩) (fun r_16 u_15 H locs hw hP hD hS => ?_)
        obtain ⟨hf_17, rfl⟩ := hw
        have hP : va_P (dC, dI) vwCl (rW h cs I L (va_up (va_up A 17 f17_12) 18 f18_13) (va_up Q 19 q)) H := hP
        have hD : va_D A0 (rW h cs I L (va_up (va_up A 17 f17_12) 18 f18_13) (va_up Q 19 q)) := hD
        obtain rfl := hf_17
        refine xn_gt (tgt := 121) hx hb dX10_chosen_35 (by decide) (by omega) (by omega) (fun c_35_17 => ?_) (fun c_35_17 => ?_)
        · skip
          refine lv_iload_n hx hb dX10_chosen_121 rfl (lv_at hl 2 rfl) ?_
          exact xr_i (v := b2) hx hb hr hlocks hK hS dX10_chosen_122 (I, L, (va_up (va_up A 17 f17_12) 18 f18_13), (va_up Q 19 q)) ⟨f17_12, f18_13, q, (Or.inl ⟨i_4, ha_5, by omega, hx_7, hf_14, m3, by have e9 : t5 = 2 ^ M - 1 := (by omega); rw [e9] at hch_29; exact hch_29⟩), rfl⟩ hP hD
        · skip
          refine lv_iconst (v := nI 0) hx hb dX10_chosen_38 (by decide) ?_
          refine lv_istore (lv' := [(6, .int (nI 0)), (0, .ref (h 0)), (1, .int (nI i_4)), (2, .int b2), (3, .long m3), (5, .int (nI (t5 + 1)))]) hx hb dX10_chosen_39 hl (by decide) rfl (fun ls hl => ?_)
          refine lv_iconst (v := nI 0) hx hb dX10_chosen_41 (by decide) ?_
          refine lv_istore (lv' := [(7, .int (nI 0)), (6, .int (nI 0)), (0, .ref (h 0)), (1, .int (nI i_4)), (2, .int b2), (3, .long m3), (5, .int (nI (t5 + 1)))]) hx hb dX10_chosen_42 hl (by decide) rfl (fun ls hl => ?_)
          have cut_44 : ∀ (nf : Nat) (c7 : Nat), (M - c7) < nf → (c7 ≤ M) → ∀ (H : Heap) (locs : List Loc) (ls : Array Slot), va_P (dC, dI) vwCl (rW h cs I L (va_up (va_up A 17 f17_12) 18 f18_13) (va_up Q 19 q)) H → va_D A0 (rW h cs I L (va_up (va_up A 17 f17_12) 18 f18_13) (va_up Q 19 q)) → va_S A0 s.heap H locs → lv_has ls 9 [(0, .ref (h 0)), (1, .int (nI i_4)), (2, .int b2), (3, .long m3), (5, .int (nI (t5 + 1))), (6, .int (cntF (nI (t5 + 1)) c7)), (7, .int (nI c7))] → W p l e (headSpec wsX10_chosen ({ frames := 2, cells := 0, slots := 0, locals := 55 })).room s m ([.ref (h 0), .int x] : List Value).toArray below meth c H locs 0 0 (MQ below (va_Qi (fun (r : Int32) (u : RS) => ∃ f17 : Nat → Int32, ∃ f18 : Nat → Int32, ∃ q19 : Nat → Int64, ((∃ i : Nat, 1 ≤ i ∧ i ≤ M ∧ x = nI i ∧ laid (A 3) R M f17 f18 ∧ ∃ w : Int64, chR f17 M i (2 ^ M - 1) r w) ∨ (r = -1 ∧ (∀ i : Nat, 1 ≤ i → i ≤ M → x ≠ nI i) ∧ f17 = A 17 ∧ f18 = A 18 ∧ q19 = Q 19)) ∧ u = (I, L, (va_up (va_up A 17 f17) 18 f18), (va_up Q 19 q19))) (xB (dC, dI) (tysA cs) A0 (fun u : RS => rW h cs u.1 u.2.1 u.2.2.1 u.2.2.2)) A0) ([.ref (h 0), .int x] : List Value).toArray s 0 0 A0) (F0 m 44 ls []) := by
            intro nf
            induction nf with
            | zero => intro c7 hm; exact absurd hm (Nat.not_lt_zero _)
            | succ nf ih_44 =>
              intro c7 hm_44 hc_44 H locs ls hP hD hS hl
              refine lv_iload hx hb dX10_chosen_44 (lv_at hl 6 rfl) ?_
              refine lv_aload_n hx hb dX10_chosen_46 rfl (lv_at hl 0 rfl) ?_
              refine va_get (D := (dC, dI)) (ci := 10) (v := .int (I 1)) (C := RX10) (T := TX10) (N := 28) hx hb hts hinX10 hown hK hP 0 rfl rfl 1 (by decide) (hts (.fieldLink RX10 13 "MixedWordsModel" "columns" "I") (by decide +kernel)) (fun _ h9 => h9) rfl dX10_chosen_47 ?_
              refine xt_i (y := nI M) (hM) ?_
              refine xn_ge (tgt := 71) hx hb dX10_chosen_50 (by decide) (by omega) (by omega) (fun c_50_18 => ?_) (fun c_50_18 => ?_)
              · skip
                rw [show c7 = M by omega] at hl
                refine lv_iload hx hb dX10_chosen_71 (lv_at hl 5 rfl) ?_
                refine lv_iload_n hx hb dX10_chosen_73 rfl (lv_at hl 1 rfl) ?_
                refine lv_icmp_ne (tgt := 115) hx hb dX10_chosen_74 (by decide) (fun c_74_19 => ?_) (fun c_74_19 => ?_)
                · skip
                  have hcnt : ¬ cntF (nI (t5 + 1)) M = nI i_4 := c_74_19
                  refine lv_iinc (v := nI ((t5 + 1) + 1)) (lv' := [(5, .int (nI ((t5 + 1) + 1))), (0, .ref (h 0)), (1, .int (nI i_4)), (2, .int b2), (3, .long m3), (6, .int (cntF (nI (t5 + 1)) M)), (7, .int (nI M))]) hx hb dX10_chosen_115 hl (k := 4) rfl (nI_1 _) (by decide) rfl (fun ls hl => ?_)
                  refine lv_goto (tgt := 29) hx hb dX10_chosen_118 (by decide) ?_
                  exact ih_29 (t5 + 1) b2 m3 q (by omega) (by first | assumption | omega) (by first | exact ⟨rfl, rfl⟩ | exact ⟨b2, m3, hch_29, Or.inl ⟨⟨hcnt, Or.inl hgt⟩, rfl, rfl⟩⟩ | exact ⟨b2, m3, hch_29, Or.inl ⟨⟨hcnt, Or.inr ⟨heq, hahe⟩⟩, rfl, rfl⟩⟩ | exact ⟨b2, m3, hch_29, Or.inr ⟨fun g => hcnt g.1, rfl, rfl⟩⟩ | exact ⟨b2, m3, hch_29, Or.inr ⟨fun g => g.2.elim hgt (fun g => heq g.1), rfl, rfl⟩⟩ | exact ⟨b2, m3, hch_29, Or.inr ⟨fun g => g.2.elim hgt (fun g => hahe g.2), rfl, rfl⟩⟩) _ _ _ hP hD hS (lv_sub hl [1, 2, 3, 4, 0] rfl)
                · skip
                  have hcnt : cntF (nI (t5 + 1)) M = nI i_4 := c_74_19
                  refine lv_aload_n hx hb dX10_chosen_77 rfl (lv_at hl 0 rfl) ?_
                  refine lv_iload hx hb dX10_chosen_78 (lv_at hl 4 rfl) ?_
                  refine xj_l (wc := (rW h cs I L (va_up (va_up A 17 f17_12) 18 f18_13) (va_up Q 19 q))) (wr := ([] : va_W)) hP hD hS hA [0, 1, 2, 3, 4, 5, 6, 7, 8, 9, 10, 11, 12, 13, 14, 15, 16] [] rfl rfl (by decide +kernel) (by decide +kernel) (va_runV (As := [.int (nI (t5 + 1))]) (rest := []) ⟨hx, hb, hml, hown, hts⟩ (k_X10_worthOf l dC dI h cs H.size I L (va_up (va_up A 17 f17_12) 18 f18_13) (va_up Q 19 q) (nI (t5 + 1)) M hM (by first | assumption | omega | exact hM1) (by first | assumption | omega | exact hM4)) (cwV 1 hts gX10_chosen_X10_worthOf rfl rfl rfl (by decide +kernel) ⟨Nat.le_of_ble_eq_true rfl, Nat.le_of_ble_eq_true rfl⟩) (xpV (wc := (rW h cs I L (va_up (va_up A 17 f17_12) 18 f18_13) (va_up Q 19 q))) hP hD hK hN [0, 1, 2, 3, 4, 5, 6, 7, 8, 9, 10, 11, 12, 13, 14, 15, 16] rfl (by decide) 0 (ci := 10) rfl rfl _) rfl rfl hl.1 rfl (lv_room (Nat.le_of_ble_eq_true rfl)) dX10_chosen_80 ⟨Nat.zero_le _, Nat.zero_le _⟩) (fun r_22 u_21 H locs hw hP hD hS => ?_)
                  obtain ⟨q19_23, hf_24, rfl⟩ := hw
                  have hP : va_P (dC, dI) vwCl (rW h cs I L (va_up (va_up A 17 f17_12) 18 f18_13) (va_up Q 19 q19_23)) H := hP
                  have hD : va_D A0 (rW h cs I L (va_up (va_up A 17 f17_12) 18 f18_13) (va_up Q 19 q19_23)) := hD
                  obtain rfl := hf_24
                  refine lv_lstore (lv' := [(7, .long (worthF f17_12 M (nI (t5 + 1)))), (0, .ref (h 0)), (1, .int (nI i_4)), (2, .int b2), (3, .long m3), (5, .int (nI (t5 + 1))), (6, .int (cntF (nI (t5 + 1)) M))]) hx hb dX10_chosen_83 hl (by decide) rfl (fun ls hl => ?_)
                  refine lv_lload hx hb dX10_chosen_85 (lv_at hl 0 rfl) ?_
                  refine lv_lload_n hx hb dX10_chosen_87 rfl (lv_at hl 4 rfl) ?_
                  refine xl_gt (tgt := 109) hx hb dX10_chosen_88 dX10_chosen_89 (by decide) (fun c_88_24 => ?_) (fun c_88_24 => ?_)
                  · skip
                    have hgt := c_88_24
                    refine lv_lload hx hb dX10_chosen_109 (lv_at hl 0 rfl) ?_
                    refine lv_lstore_n (lv' := [(3, .long (worthF f17_12 M (nI (t5 + 1)))), (7, .long (worthF f17_12 M (nI (t5 + 1)))), (0, .ref (h 0)), (1, .int (nI i_4)), (2, .int b2), (5, .int (nI (t5 + 1))), (6, .int (cntF (nI (t5 + 1)) M))]) hx hb dX10_chosen_111 rfl hl (by decide) rfl (fun ls hl => ?_)
                    refine lv_iload hx hb dX10_chosen_112 (lv_at hl 5 rfl) ?_
                    refine lv_istore_n (lv' := [(2, .int (nI (t5 + 1))), (3, .long (worthF f17_12 M (nI (t5 + 1)))), (7, .long (worthF f17_12 M (nI (t5 + 1)))), (0, .ref (h 0)), (1, .int (nI i_4)), (5, .int (nI (t5 + 1))), (6, .int (cntF (nI (t5 + 1)) M))]) hx hb dX10_chosen_114 rfl hl (by decide) rfl (fun ls hl => ?_)
                    refine lv_iinc (v := nI ((t5 + 1) + 1)) (lv' := [(5, .int (nI ((t5 + 1) + 1))), (2, .int (nI (t5 + 1))), (3, .long (worthF f17_12 M (nI (t5 + 1)))), (7, .long (worthF f17_12 M (nI (t5 + 1)))), (0, .ref (h 0)), (1, .int (nI i_4)), (6, .int (cntF (nI (t5 + 1)) M))]) hx hb dX10_chosen_115 hl (k := 5) rfl (nI_1 _) (by decide) rfl (fun ls hl => ?_)
                    refine lv_goto (tgt := 29) hx hb dX10_chosen_118 (by decide) ?_
                    exact ih_29 (t5 + 1) (nI (t5 + 1)) (worthF f17_12 M (nI (t5 + 1))) q19_23 (by omega) (by first | assumption | omega) (by first | exact ⟨rfl, rfl⟩ | exact ⟨b2, m3, hch_29, Or.inl ⟨⟨hcnt, Or.inl hgt⟩, rfl, rfl⟩⟩ | exact ⟨b2, m3, hch_29, Or.inl ⟨⟨hcnt, Or.inr ⟨heq, hahe⟩⟩, rfl, rfl⟩⟩ | exact ⟨b2, m3, hch_29, Or.inr ⟨fun g => hcnt g.1, rfl, rfl⟩⟩ | exact ⟨b2, m3, hch_29, Or.inr ⟨fun g => g.2.elim hgt (fun g => heq g.1), rfl, rfl⟩⟩ | exact ⟨b2, m3, hch_29, Or.inr ⟨fun g => g.2.elim hgt (fun g => hahe g.2), rfl, rfl⟩⟩) _ _ _ hP hD hS (lv_sub hl [4, 5, 1, 2, 0] rfl)
                  · skip
                    have hgt := c_88_24
                    refine lv_lload hx hb dX10_chosen_92 (lv_at hl 0 rfl) ?_
                    refine lv_lload_n hx hb dX10_chosen_94 rfl (lv_at hl 4 rfl) ?_
                    refine xl_ne (tgt := 115) hx hb dX10_chosen_95 dX10_chosen_96 (by decide) (fun c_95_25 => ?_) (fun c_95_25 => ?_)
                    · skip
                      have heq := c_95_25
                      refine lv_iinc (v := nI ((t5 + 1) + 1)) (lv' := [(5, .int (nI ((t5 + 1) + 1))), (7, .long (worthF f17_12 M (nI (t5 + 1)))), (0, .ref (h 0)), (1, .int (nI i_4)), (2, .int b2), (3, .long m3), (6, .int (cntF (nI (t5 + 1)) M))]) hx hb dX10_chosen_115 hl (k := 5) rfl (nI_1 _) (by decide) rfl (fun ls hl => ?_)
                      refine lv_goto (tgt := 29) hx hb dX10_chosen_118 (by decide) ?_
                      exact ih_29 (t5 + 1) b2 m3 q19_23 (by omega) (by first | assumption | omega) (by first | exact ⟨rfl, rfl⟩ | exact ⟨b2, m3, hch_29, Or.inl ⟨⟨hcnt, Or.inl hgt⟩, rfl, rfl⟩⟩ | exact ⟨b2, m3, hch_29, Or.inl ⟨⟨hcnt, Or.inr ⟨heq, hahe⟩⟩, rfl, rfl⟩⟩ | exact ⟨b2, m3, hch_29, Or.inr ⟨fun g => hcnt g.1, rfl, rfl⟩⟩ | exact ⟨b2, m3, hch_29, Or.inr ⟨fun g => g.2.elim hgt (fun g => heq g.1), rfl, rfl⟩⟩ | exact ⟨b2, m3, hch_29, Or.inr ⟨fun g => g.2.elim hgt (fun g => hahe g.2), rfl, rfl⟩⟩) _ _ _ hP hD hS (lv_sub hl [2, 3, 4, 5, 0] rfl)
                    · skip
                      have heq := c_95_25
                      refine lv_aload_n hx hb dX10_chosen_99 rfl (lv_at hl 1 rfl) ?_
                      refine lv_iload hx hb dX10_chosen_100 (lv_at hl 5 rfl) ?_
                      refine lv_iload_n hx hb dX10_chosen_102 rfl (lv_at hl 3 rfl) ?_
                      refine xj_i (wc := (rW h cs I L (va_up (va_up A 17 f17_12) 18 f18_13) (va_up Q 19 q19_23))) (wr := ([] : va_W)) hP hD hS hA [0, 1, 2, 3, 4, 5, 6, 7, 8, 9, 10, 11, 12, 13, 14, 15, 16] [] rfl rfl (by decide +kernel) (by decide +kernel) (va_runV (As := [.int (nI (t5 + 1)), .int b2]) (rest := []) ⟨hx, hb, hml, hown, hts⟩ (k_X10_isAhead l dC dI h cs H.size I L (va_up (va_up A 17 f17_12) 18 f18_13) (va_up Q 19 q19_23) (nI (t5 + 1)) b2 M hM (by first | assumption | omega | exact hM1) (by first | assumption | omega | exact hM4)) (cwV 2 hts gX10_chosen_X10_isAhead rfl rfl rfl (by decide +kernel) ⟨Nat.le_of_ble_eq_true rfl, Nat.le_of_ble_eq_true rfl⟩) (xpV (wc := (rW h cs I L (va_up (va_up A 17 f17_12) 18 f18_13) (va_up Q 19 q19_23))) hP hD hK hN [0, 1, 2, 3, 4, 5, 6, 7, 8, 9, 10, 11, 12, 13, 14, 15, 16] rfl (by decide) 0 (ci := 10) rfl rfl _) rfl rfl hl.1 rfl (lv_room (Nat.le_of_ble_eq_true rfl)) dX10_chosen_103 ⟨Nat.zero_le _, Nat.zero_le _⟩) (fun r_28 u_27 H locs hw hP hD hS => ?_)
                      obtain ⟨hf_29, rfl⟩ := hw
                      have hP : va_P (dC, dI) vwCl (rW h cs I L (va_up (va_up A 17 f17_12) 18 f18_13) (va_up Q 19 q19_23)) H := hP
                      have hD : va_D A0 (rW h cs I L (va_up (va_up A 17 f17_12) 18 f18_13) (va_up Q 19 q19_23)) := hD
                      rcases hf_29 with ⟨rfl, hah_30⟩ | ⟨rfl, hah_30⟩
                      · skip
                        have hahe := hah_30
                        refine xs_eqF (tgt := 115) hx hb dX10_chosen_106 (by decide) (by decide) ?_
                        refine lv_lload hx hb dX10_chosen_109 (lv_at hl 0 rfl) ?_
                        refine lv_lstore_n (lv' := [(3, .long (worthF f17_12 M (nI (t5 + 1)))), (7, .long (worthF f17_12 M (nI (t5 + 1)))), (0, .ref (h 0)), (1, .int (nI i_4)), (2, .int b2), (5, .int (nI (t5 + 1))), (6, .int (cntF (nI (t5 + 1)) M))]) hx hb dX10_chosen_111 rfl hl (by decide) rfl (fun ls hl => ?_)
                        refine lv_iload hx hb dX10_chosen_112 (lv_at hl 5 rfl) ?_
                        refine lv_istore_n (lv' := [(2, .int (nI (t5 + 1))), (3, .long (worthF f17_12 M (nI (t5 + 1)))), (7, .long (worthF f17_12 M (nI (t5 + 1)))), (0, .ref (h 0)), (1, .int (nI i_4)), (5, .int (nI (t5 + 1))), (6, .int (cntF (nI (t5 + 1)) M))]) hx hb dX10_chosen_114 rfl hl (by decide) rfl (fun ls hl => ?_)
                        refine lv_iinc (v := nI ((t5 + 1) + 1)) (lv' := [(5, .int (nI ((t5 + 1) + 1))), (2, .int (nI (t5 + 1))), (3, .long (worthF f17_12 M (nI (t5 + 1)))), (7, .long (worthF f17_12 M (nI (t5 + 1)))), (0, .ref (h 0)), (1, .int (nI i_4)), (6, .int (cntF (nI (t5 + 1)) M))]) hx hb dX10_chosen_115 hl (k := 5) rfl (nI_1 _) (by decide) rfl (fun ls hl => ?_)
                        refine lv_goto (tgt := 29) hx hb dX10_chosen_118 (by decide) ?_
                        exact ih_29 (t5 + 1) (nI (t5 + 1)) (worthF f17_12 M (nI (t5 + 1))) q19_23 (by omega) (by first | assumption | omega) (by first | exact ⟨rfl, rfl⟩ | exact ⟨b2, m3, hch_29, Or.inl ⟨⟨hcnt, Or.inl hgt⟩, rfl, rfl⟩⟩ | exact ⟨b2, m3, hch_29, Or.inl ⟨⟨hcnt, Or.inr ⟨heq, hahe⟩⟩, rfl, rfl⟩⟩ | exact ⟨b2, m3, hch_29, Or.inr ⟨fun g => hcnt g.1, rfl, rfl⟩⟩ | exact ⟨b2, m3, hch_29, Or.inr ⟨fun g => g.2.elim hgt (fun g => heq g.1), rfl, rfl⟩⟩ | exact ⟨b2, m3, hch_29, Or.inr ⟨fun g => g.2.elim hgt (fun g => hahe g.2), rfl, rfl⟩⟩) _ _ _ hP hD hS (lv_sub hl [4, 5, 1, 2, 0] rfl)
                      · skip
                        have hahe := hah_30
                        refine xs_eqT (tgt := 115) hx hb dX10_chosen_106 (by decide) (by decide) ?_
                        refine lv_iinc (v := nI ((t5 + 1) + 1)) (lv' := [(5, .int (nI ((t5 + 1) + 1))), (7, .long (worthF f17_12 M (nI (t5 + 1)))), (0, .ref (h 0)), (1, .int (nI i_4)), (2, .int b2), (3, .long m3), (6, .int (cntF (nI (t5 + 1)) M))]) hx hb dX10_chosen_115 hl (k := 5) rfl (nI_1 _) (by decide) rfl (fun ls hl => ?_)
                        refine lv_goto (tgt := 29) hx hb dX10_chosen_118 (by decide) ?_
                        exact ih_29 (t5 + 1) b2 m3 q19_23 (by omega) (by first | assumption | omega) (by first | exact ⟨rfl, rfl⟩ | exact ⟨b2, m3, hch_29, Or.inl ⟨⟨hcnt, Or.inl hgt⟩, rfl, rfl⟩⟩ | exact ⟨b2, m3, hch_29, Or.inl ⟨⟨hcnt, Or.inr ⟨heq, hahe⟩⟩, rfl, rfl⟩⟩ | exact ⟨b2, m3, hch_29, Or.inr ⟨fun g => hcnt g.1, rfl, rfl⟩⟩ | exact ⟨b2, m3, hch_29, Or.inr ⟨fun g => g.2.elim hgt (fun g => heq g.1), rfl, rfl⟩⟩ | exact ⟨b2, m3, hch_29, Or.inr ⟨fun g => g.2.elim hgt (fun g => hahe g.2), rfl, rfl⟩⟩) _ _ _ hP hD hS (lv_sub hl [2, 3, 4, 5, 0] rfl)
              · skip
                refine lv_iload hx hb dX10_chosen_53 (lv_at hl 5 rfl) ?_
                refine lv_iload hx hb dX10_chosen_55 (lv_at hl 4 rfl) ?_
                refine lv_iload hx hb dX10_chosen_57 (lv_at hl 6 rfl) ?_
                refine lv_ishr hx hb dX10_chosen_59 ?_
                refine lv_iconst (v := nI 1) hx hb dX10_chosen_60 (by decide) ?_
                refine lv_iand hx hb dX10_chosen_61 ?_
                refine lv_iadd hx hb dX10_chosen_62 ?_
                refine lv_istore (lv' := [(6, .int ((cntF (nI (t5 + 1)) c7) + (((nI (t5 + 1)) >>> ((nI c7) &&& 31)) &&& (nI 1)))), (0, .ref (h 0)), (1, .int (nI i_4)), (2, .int b2), (3, .long m3), (5, .int (nI (t5 + 1))), (7, .int (nI c7))]) hx hb dX10_chosen_63 hl (by decide) rfl (fun ls hl => ?_)
                refine lv_iinc (v := nI (c7 + 1)) (lv' := [(7, .int (nI (c7 + 1))), (6, .int ((cntF (nI (t5 + 1)) c7) + (((nI (t5 + 1)) >>> ((nI c7) &&& 31)) &&& (nI 1)))), (0, .ref (h 0)), (1, .int (nI i_4)), (2, .int b2), (3, .long m3), (5, .int (nI (t5 + 1)))]) hx hb dX10_chosen_65 hl (k := 6) rfl (nI_1 _) (by decide) rfl (fun ls hl => ?_)
                refine lv_goto (tgt := 44) hx hb dX10_chosen_68 (by decide) ?_
                exact ih_44 (c7 + 1) (by omega) (by first | assumption | omega) _ _ _ hP hD hS (lv_sub hl [2, 3, 4, 5, 6, 1, 0] rfl)
          exact cut_44 _ 0 (Nat.lt_succ_self _) (by first | assumption | omega) _ _ _ hP hD hS (lv_sub hl [2, 3, 4, 5, 6, 1, 0] rfl)
    exact cut_29 _ 0 (nI 0) (-1 : Int64) (Q 19) (Nat.lt_succ_self _) (by first | assumption | omega) (by first | exact ⟨rfl, rfl⟩ | exact ⟨b2, m3, hch_29, Or.inl ⟨⟨hcnt, Or.inl hgt⟩, rfl, rfl⟩⟩ | exact ⟨b2, m3, hch_29, Or.inl ⟨⟨hcnt, Or.inr ⟨heq, hahe⟩⟩, rfl, rfl⟩⟩ | exact ⟨b2, m3, hch_29, Or.inr ⟨fun g => hcnt g.1, rfl, rfl⟩⟩ | exact ⟨b2, m3, hch_29, Or.inr ⟨fun g => g.2.elim hgt (fun g => heq g.1), rfl, rfl⟩⟩ | exact ⟨b2, m3, hch_29, Or.inr ⟨fun g => g.2.elim hgt (fun g => hahe g.2), rfl, rfl⟩⟩) _ _ _ hP hD hS (lv_sub hl [3, 4, 2, 1, 0] rfl)
  · skip
    refine xs_neF (tgt := 16) hx hb dX10_chosen_11 (by decide) (by decide) ?_
    refine lv_iconst (v := (-1)) hx hb dX10_chosen_14 (by decide) ?_
    exact xr_i (v := (-1)) hx hb hr hlocks hK hS dX10_chosen_15 (I, L, (va_up (va_up A 17 (A 17)) 18 (A 18)), (va_up Q 19 (Q 19))) ⟨(A 17), (A 18), (Q 19), (Or.inr ⟨rfl, fun i h1 h2 => hn_8 i h1 (by omega) (by omega), rfl, rfl, rfl⟩), rfl⟩ hP hD
