theorem fg1 {gg : Nat → Nat → Int32} {r k : Nat} {v : Int32} (h : ∀ t : Nat, t < k → gg r t = v) : ∀ t : Nat, t < k + 1 → (va_up gg r (upd (gg r) k v)) r t = v := by
  intro t ht
  simp only [va_up, if_true]
  by_cases e : t = k
  · rw [e, pk_us]
  · rw [pk_un e, h t (by omega)]
theorem fg2 {gg G0 : Nat → Nat → Int32} {r : Nat} {x : Nat → Int32} (h : ∀ q : Nat, q ≠ r → gg q = G0 q) : ∀ q : Nat, q ≠ r → va_up gg r x q = G0 q := by
  intro q hq
  simp only [va_up, if_neg hq]
  exact h q hq
theorem fa1 {f : Nat → Int32} {k : Nat} {v : Int32} (h : ∀ t : Nat, t < k → f t = v) : ∀ t : Nat, t < k + 1 → upd f k v t = v := by
  intro t ht
  by_cases e : t = k
  · rw [e, pk_us]
  · rw [pk_un e, h t (by omega)]
theorem fl1 {f : Nat → Int64} {k : Nat} {v : Int64} (h : ∀ t : Nat, t < k → f t = v) : ∀ t : Nat, t < k + 1 → vp_updL f k v t = v := by
  intro t ht
  by_cases e : t = k
  · rw [e, pk_uLs]
  · rw [pk_uLn e, h t (by omega)]
def wRw0 (h : Nat → Nat) (cs : Nat → ClassId) (I : Nat → Int32) (L : Nat → Int64) (A : Nat → Nat → Int32) (Q : Nat → Nat → Int64) (G : Nat → Nat → Nat → Int32) (J : Nat → Nat → Nat → Int64) : va_W := [(h 131, .inl (cs 0, 4, .inl ((G 0) 0)))]
def wRw1 (h : Nat → Nat) (cs : Nat → ClassId) (I : Nat → Int32) (L : Nat → Int64) (A : Nat → Nat → Int32) (Q : Nat → Nat → Int64) (G : Nat → Nat → Nat → Int32) (J : Nat → Nat → Nat → Int64) : va_W := [(h 132, .inl (cs 0, 4, .inl ((G 0) 1)))]
def wRw2 (h : Nat → Nat) (cs : Nat → ClassId) (I : Nat → Int32) (L : Nat → Int64) (A : Nat → Nat → Int32) (Q : Nat → Nat → Int64) (G : Nat → Nat → Nat → Int32) (J : Nat → Nat → Nat → Int64) : va_W := [(h 133, .inl (cs 0, 4, .inl ((G 0) 2)))]
def wRw3 (h : Nat → Nat) (cs : Nat → ClassId) (I : Nat → Int32) (L : Nat → Int64) (A : Nat → Nat → Int32) (Q : Nat → Nat → Int64) (G : Nat → Nat → Nat → Int32) (J : Nat → Nat → Nat → Int64) : va_W := [(h 134, .inl (cs 0, 4, .inl ((G 0) 3)))]
def wRw4 (h : Nat → Nat) (cs : Nat → ClassId) (I : Nat → Int32) (L : Nat → Int64) (A : Nat → Nat → Int32) (Q : Nat → Nat → Int64) (G : Nat → Nat → Nat → Int32) (J : Nat → Nat → Nat → Int64) : va_W := [(h 135, .inl (cs 0, 4, .inl ((G 0) 4)))]
def wHd (h : Nat → Nat) (cs : Nat → ClassId) (I : Nat → Int32) (L : Nat → Int64) (A : Nat → Nat → Int32) (Q : Nat → Nat → Int64) (G : Nat → Nat → Nat → Int32) (J : Nat → Nat → Nat → Int64) : va_W := [(h 136, .inl (cs 0, 5, .inl (A 136)))]
def wIt (h : Nat → Nat) (cs : Nat → ClassId) (I : Nat → Int32) (L : Nat → Int64) (A : Nat → Nat → Int32) (Q : Nat → Nat → Int64) (G : Nat → Nat → Nat → Int32) (J : Nat → Nat → Nat → Int64) : va_W := [(h 228, .inl (cs 1, 25, .inr (.inl (Q 228))))]
theorem bdJ7_fill_53178_0 : (decode cJ7_fill_53178 0 = .ok (.iconst 0, 1)) ∧ (decode cJ7_fill_53178 1 = .ok (.istore_n 2, 1)) ∧ (decode cJ7_fill_53178 2 = .ok (.aload_n 0, 1)) ∧ (decode cJ7_fill_53178 3 = .ok (.arraylength, 1)) ∧ (decode cJ7_fill_53178 4 = .ok (.istore_n 3, 1)) ∧ (decode cJ7_fill_53178 5 = .ok (.iload_n 2, 1)) ∧ (decode cJ7_fill_53178 6 = .ok (.iload_n 3, 1)) ∧ (decode cJ7_fill_53178 7 = .ok (.if_icmp .ge 13, 3)) ∧ (decode cJ7_fill_53178 10 = .ok (.aload_n 0, 1)) ∧ (decode cJ7_fill_53178 11 = .ok (.iload_n 2, 1)) ∧ (decode cJ7_fill_53178 12 = .ok (.iload_n 1, 1)) ∧ (decode cJ7_fill_53178 13 = .ok (.iastore, 1)) ∧ (decode cJ7_fill_53178 14 = .ok (.iinc 2 1, 3)) ∧ (decode cJ7_fill_53178 17 = .ok (.goto (-12), 3)) ∧ (decode cJ7_fill_53178 20 = .ok (.return_, 1)) := by decide +kernel
theorem dJ7_fill_53178_0 : decode cJ7_fill_53178 0 = .ok (.iconst 0, 1) := bdJ7_fill_53178_0.1
theorem dJ7_fill_53178_1 : decode cJ7_fill_53178 1 = .ok (.istore_n 2, 1) := bdJ7_fill_53178_0.2.1
theorem dJ7_fill_53178_2 : decode cJ7_fill_53178 2 = .ok (.aload_n 0, 1) := bdJ7_fill_53178_0.2.2.1
theorem dJ7_fill_53178_3 : decode cJ7_fill_53178 3 = .ok (.arraylength, 1) := bdJ7_fill_53178_0.2.2.2.1
theorem dJ7_fill_53178_4 : decode cJ7_fill_53178 4 = .ok (.istore_n 3, 1) := bdJ7_fill_53178_0.2.2.2.2.1
theorem dJ7_fill_53178_5 : decode cJ7_fill_53178 5 = .ok (.iload_n 2, 1) := bdJ7_fill_53178_0.2.2.2.2.2.1
theorem dJ7_fill_53178_6 : decode cJ7_fill_53178 6 = .ok (.iload_n 3, 1) := bdJ7_fill_53178_0.2.2.2.2.2.2.1
theorem dJ7_fill_53178_7 : decode cJ7_fill_53178 7 = .ok (.if_icmp .ge 13, 3) := bdJ7_fill_53178_0.2.2.2.2.2.2.2.1
theorem dJ7_fill_53178_10 : decode cJ7_fill_53178 10 = .ok (.aload_n 0, 1) := bdJ7_fill_53178_0.2.2.2.2.2.2.2.2.1
theorem dJ7_fill_53178_11 : decode cJ7_fill_53178 11 = .ok (.iload_n 2, 1) := bdJ7_fill_53178_0.2.2.2.2.2.2.2.2.2.1
theorem dJ7_fill_53178_12 : decode cJ7_fill_53178 12 = .ok (.iload_n 1, 1) := bdJ7_fill_53178_0.2.2.2.2.2.2.2.2.2.2.1
theorem dJ7_fill_53178_13 : decode cJ7_fill_53178 13 = .ok (.iastore, 1) := bdJ7_fill_53178_0.2.2.2.2.2.2.2.2.2.2.2.1
theorem dJ7_fill_53178_14 : decode cJ7_fill_53178 14 = .ok (.iinc 2 1, 3) := bdJ7_fill_53178_0.2.2.2.2.2.2.2.2.2.2.2.2.1
theorem dJ7_fill_53178_17 : decode cJ7_fill_53178 17 = .ok (.goto (-12), 3) := bdJ7_fill_53178_0.2.2.2.2.2.2.2.2.2.2.2.2.2.1
theorem dJ7_fill_53178_20 : decode cJ7_fill_53178 20 = .ok (.return_, 1) := bdJ7_fill_53178_0.2.2.2.2.2.2.2.2.2.2.2.2.2.2
set_option maxHeartbeats 4000000 in
set_option maxRecDepth 100000 in
theorem k_fill_row0 (l : Launch) (dC : Nat → ClassId) (dI : Nat → Nat → Nat) (h : Nat → Nat) (cs : Nat → ClassId) (sz : Nat) (I : Nat → Int32) (L : Nat → Int64) (A : Nat → Nat → Int32) (Q : Nat → Nat → Int64) (G : Nat → Nat → Nat → Int32) (J : Nat → Nat → Nat → Int64) (v : Int32) : Met l yJ7_fill_53178 wsJ7_fill_53178 ({ frames := 0, cells := 0, slots := 0, locals := 0 }) (va_Pc [.ref (h 131), .int v] (xPre (dC, dI) (wRw0 h cs I L A Q G J) (tysA cs) sz)) (va_Qv (fun (u : CS) => ∃ f9 : Nat → Int32, (∀ t : Nat, t < 4 → f9 t = v) ∧ u = (I, L, A, Q, (va_up G 0 (va_up (G 0) 0 f9)), J)) (xB (dC, dI) (tysA cs) (va_A (wRw0 h cs I L A Q G J) sz) (fun u : CS => wRw0 h cs u.1 u.2.1 u.2.2.1 u.2.2.2.1 u.2.2.2.2.1 u.2.2.2.2.2)) (va_A (wRw0 h cs I L A Q G J) sz)) 0 0 (va_A (wRw0 h cs I L A Q G J) sz) := by
  refine Met.ofW (cc := cJ7_fill_53178) (maxL := 4) (ret := none) (by decide) rfl ?_
  intro p e s m args below meth c s₁ B hml hv
  obtain ⟨rfl, hsz, hP, hK, hD0, hN⟩ := hv
  have hx := B.exec
  have hb := B.bytes
  have hr := B.returns
  have hts := atoms_spec (ws := wsJ7_fill_53178) B.pre
  have hown : s.vm.findClass RJ7 = some m.cls := findClass_of_methodNamed B.named
  have hlocks := B.notSynchronized
  subst hsz
  have hD := hD0.self (sz := s.heap.size)
  generalize hAe : va_A (wRw0 h cs I L A Q G J) s.heap.size = A0 at hD ⊢
  have hA : ∀ q : Nat, s.heap.size ≤ q → A0 q := fun q h => by rw [← hAe]; exact Or.inr h
  have hl := lv_entry ([.ref (h 131), .int v]) (n := 4) (Nat.le_of_ble_eq_true rfl)
  rw [lg_entry_eq]
  generalize (lg_sl ([.ref (h 131), .int v]) ++ List.replicate (4 - (lg_sl ([.ref (h 131), .int v])).length) Slot.unset).toArray = ls at hl ⊢
  have hl : lv_has ls 4 [(0, .ref (h 131)), (1, .int v)] := hl
  generalize hH : s.heap = H at hP ⊢
  have hS : va_S A0 s.heap H [] := by rw [← hH]; exact va_S.rf
  refine lv_iconst (v := nI 0) hx hb dJ7_fill_53178_0 (by decide) ?_
  refine lv_istore_n (lv' := [(2, .int (nI 0)), (0, .ref (h 131)), (1, .int v)]) hx hb dJ7_fill_53178_1 rfl hl (by decide) rfl (fun ls hl => ?_)
  refine lv_aload_n hx hb dJ7_fill_53178_2 rfl (lv_at hl 1 rfl) ?_
  refine xa_alen hx hb hK hP 0 0 rfl rfl (n := 4) rfl dJ7_fill_53178_3 ?_
  refine lv_istore_n (lv' := [(3, .int (nI 4)), (2, .int (nI 0)), (0, .ref (h 131)), (1, .int v)]) hx hb dJ7_fill_53178_4 rfl hl (by decide) rfl (fun ls hl => ?_)
  have cut_5 : ∀ (nf : Nat) (n : Nat) (ff : Nat → Int32), (4 - n) < nf → (n ≤ 4) → (∀ t : Nat, t < n → ff t = v) → ∀ (H : Heap) (locs : List Loc) (ls : Array Slot), va_P (dC, dI) vwCl (wRw0 h cs I L A Q (va_up G 0 (va_up (G 0) 0 ff)) J) H → va_D A0 (wRw0 h cs I L A Q (va_up G 0 (va_up (G 0) 0 ff)) J) → va_S A0 s.heap H locs → lv_has ls 4 [(0, .ref (h 131)), (1, .int v), (2, .int (nI n)), (3, .int (nI 4))] → W p l e (headSpec wsJ7_fill_53178 ({ frames := 0, cells := 0, slots := 0, locals := 0 })).room s m ([.ref (h 131), .int v] : List Value).toArray below meth c H locs 0 0 (MQ below (va_Qv (fun (u : CS) => ∃ f9 : Nat → Int32, (∀ t : Nat, t < 4 → f9 t = v) ∧ u = (I, L, A, Q, (va_up G 0 (va_up (G 0) 0 f9)), J)) (xB (dC, dI) (tysA cs) A0 (fun u : CS => wRw0 h cs u.1 u.2.1 u.2.2.1 u.2.2.2.1 u.2.2.2.2.1 u.2.2.2.2.2)) A0) ([.ref (h 131), .int v] : List Value).toArray s 0 0 A0) (F0 m 5 ls []) := by
    intro nf
    induction nf with
    | zero => intro n ff hm; exact absurd hm (Nat.not_lt_zero _)
    | succ nf ih_5 =>
      intro n ff hm_5 hn5 ha5 H locs ls hP hD hS hl
      refine lv_iload_n hx hb dJ7_fill_53178_5 rfl (lv_at hl 2 rfl) ?_
      refine lv_iload_n hx hb dJ7_fill_53178_6 rfl (lv_at hl 3 rfl) ?_
      refine xn_ge (tgt := 20) hx hb dJ7_fill_53178_7 (by decide) (by omega) (by omega) (fun c_7_0 => ?_) (fun c_7_0 => ?_)
      · skip
        exact xr_v hx hb hr hlocks hK hS dJ7_fill_53178_20 (I, L, A, Q, (va_up G 0 (va_up (G 0) 0 ff)), J) ⟨ff, (fun t ht => ha5 t (by omega)), rfl⟩ hP hD
      · skip
        refine lv_aload_n hx hb dJ7_fill_53178_10 rfl (lv_at hl 0 rfl) ?_
        refine lv_iload_n hx hb dJ7_fill_53178_11 rfl (lv_at hl 2 rfl) ?_
        refine lv_iload_n hx hb dJ7_fill_53178_12 rfl (lv_at hl 1 rfl) ?_
        refine xa_iast hx hb hK hP hD hS 0 0 rfl rfl (by omega) (by decide) dJ7_fill_53178_13 (fun H locs hP hD hS => ?_)
        have hP : va_P (dC, dI) vwCl (wRw0 h cs I L A Q (va_up G 0 (va_up (va_up (G 0) 0 ff) 0 (upd ((va_up (G 0) 0 ff) 0) n v))) J) H := hP
        have hD : va_D A0 (wRw0 h cs I L A Q (va_up G 0 (va_up (va_up (G 0) 0 ff) 0 (upd ((va_up (G 0) 0 ff) 0) n v))) J) := hD
        refine lv_iinc (v := nI (n + 1)) (lv' := [(2, .int (nI (n + 1))), (0, .ref (h 131)), (1, .int v), (3, .int (nI 4))]) hx hb dJ7_fill_53178_14 hl (k := 2) rfl (nI_1 _) (by decide) rfl (fun ls hl => ?_)
        refine lv_goto (tgt := 5) hx hb dJ7_fill_53178_17 (by decide) ?_
        exact ih_5 (n + 1) (upd ff n v) (by omega) (by first | assumption | omega) (by first | exact fun t ht => absurd ht (Nat.not_lt_zero t) | exact fa1 ha5) _ _ _ hP hD hS (lv_sub hl [1, 2, 0, 3] rfl)
  exact cut_5 _ 0 (G 0 0) (Nat.lt_succ_self _) (by first | assumption | omega) (by first | exact fun t ht => absurd ht (Nat.not_lt_zero t) | exact fa1 ha5) _ _ _ hP hD hS (lv_sub hl [2, 3, 1, 0] rfl)
set_option maxHeartbeats 4000000 in
set_option maxRecDepth 100000 in
theorem k_fill_row1 (l : Launch) (dC : Nat → ClassId) (dI : Nat → Nat → Nat) (h : Nat → Nat) (cs : Nat → ClassId) (sz : Nat) (I : Nat → Int32) (L : Nat → Int64) (A : Nat → Nat → Int32) (Q : Nat → Nat → Int64) (G : Nat → Nat → Nat → Int32) (J : Nat → Nat → Nat → Int64) (v : Int32) : Met l yJ7_fill_53178 wsJ7_fill_53178 ({ frames := 0, cells := 0, slots := 0, locals := 0 }) (va_Pc [.ref (h 132), .int v] (xPre (dC, dI) (wRw1 h cs I L A Q G J) (tysA cs) sz)) (va_Qv (fun (u : CS) => ∃ f9 : Nat → Int32, (∀ t : Nat, t < 4 → f9 t = v) ∧ u = (I, L, A, Q, (va_up G 0 (va_up (G 0) 1 f9)), J)) (xB (dC, dI) (tysA cs) (va_A (wRw1 h cs I L A Q G J) sz) (fun u : CS => wRw1 h cs u.1 u.2.1 u.2.2.1 u.2.2.2.1 u.2.2.2.2.1 u.2.2.2.2.2)) (va_A (wRw1 h cs I L A Q G J) sz)) 0 0 (va_A (wRw1 h cs I L A Q G J) sz) := by
  refine Met.ofW (cc := cJ7_fill_53178) (maxL := 4) (ret := none) (by decide) rfl ?_
  intro p e s m args below meth c s₁ B hml hv
  obtain ⟨rfl, hsz, hP, hK, hD0, hN⟩ := hv
  have hx := B.exec
  have hb := B.bytes
  have hr := B.returns
  have hts := atoms_spec (ws := wsJ7_fill_53178) B.pre
  have hown : s.vm.findClass RJ7 = some m.cls := findClass_of_methodNamed B.named
  have hlocks := B.notSynchronized
  subst hsz
  have hD := hD0.self (sz := s.heap.size)
  generalize hAe : va_A (wRw1 h cs I L A Q G J) s.heap.size = A0 at hD ⊢
  have hA : ∀ q : Nat, s.heap.size ≤ q → A0 q := fun q h => by rw [← hAe]; exact Or.inr h
  have hl := lv_entry ([.ref (h 132), .int v]) (n := 4) (Nat.le_of_ble_eq_true rfl)
  rw [lg_entry_eq]
  generalize (lg_sl ([.ref (h 132), .int v]) ++ List.replicate (4 - (lg_sl ([.ref (h 132), .int v])).length) Slot.unset).toArray = ls at hl ⊢
  have hl : lv_has ls 4 [(0, .ref (h 132)), (1, .int v)] := hl
  generalize hH : s.heap = H at hP ⊢
  have hS : va_S A0 s.heap H [] := by rw [← hH]; exact va_S.rf
  refine lv_iconst (v := nI 0) hx hb dJ7_fill_53178_0 (by decide) ?_
  refine lv_istore_n (lv' := [(2, .int (nI 0)), (0, .ref (h 132)), (1, .int v)]) hx hb dJ7_fill_53178_1 rfl hl (by decide) rfl (fun ls hl => ?_)
  refine lv_aload_n hx hb dJ7_fill_53178_2 rfl (lv_at hl 1 rfl) ?_
  refine xa_alen hx hb hK hP 0 0 rfl rfl (n := 4) rfl dJ7_fill_53178_3 ?_
  refine lv_istore_n (lv' := [(3, .int (nI 4)), (2, .int (nI 0)), (0, .ref (h 132)), (1, .int v)]) hx hb dJ7_fill_53178_4 rfl hl (by decide) rfl (fun ls hl => ?_)
  have cut_5 : ∀ (nf : Nat) (n : Nat) (ff : Nat → Int32), (4 - n) < nf → (n ≤ 4) → (∀ t : Nat, t < n → ff t = v) → ∀ (H : Heap) (locs : List Loc) (ls : Array Slot), va_P (dC, dI) vwCl (wRw1 h cs I L A Q (va_up G 0 (va_up (G 0) 1 ff)) J) H → va_D A0 (wRw1 h cs I L A Q (va_up G 0 (va_up (G 0) 1 ff)) J) → va_S A0 s.heap H locs → lv_has ls 4 [(0, .ref (h 132)), (1, .int v), (2, .int (nI n)), (3, .int (nI 4))] → W p l e (headSpec wsJ7_fill_53178 ({ frames := 0, cells := 0, slots := 0, locals := 0 })).room s m ([.ref (h 132), .int v] : List Value).toArray below meth c H locs 0 0 (MQ below (va_Qv (fun (u : CS) => ∃ f9 : Nat → Int32, (∀ t : Nat, t < 4 → f9 t = v) ∧ u = (I, L, A, Q, (va_up G 0 (va_up (G 0) 1 f9)), J)) (xB (dC, dI) (tysA cs) A0 (fun u : CS => wRw1 h cs u.1 u.2.1 u.2.2.1 u.2.2.2.1 u.2.2.2.2.1 u.2.2.2.2.2)) A0) ([.ref (h 132), .int v] : List Value).toArray s 0 0 A0) (F0 m 5 ls []) := by
    intro nf
    induction nf with
    | zero => intro n ff hm; exact absurd hm (Nat.not_lt_zero _)
    | succ nf ih_5 =>
      intro n ff hm_5 hn5 ha5 H locs ls hP hD hS hl
      refine lv_iload_n hx hb dJ7_fill_53178_5 rfl (lv_at hl 2 rfl) ?_
      refine lv_iload_n hx hb dJ7_fill_53178_6 rfl (lv_at hl 3 rfl) ?_
      refine xn_ge (tgt := 20) hx hb dJ7_fill_53178_7 (by decide) (by omega) (by omega) (fun c_7_0 => ?_) (fun c_7_0 => ?_)
      · skip
        exact xr_v hx hb hr hlocks hK hS dJ7_fill_53178_20 (I, L, A, Q, (va_up G 0 (va_up (G 0) 1 ff)), J) ⟨ff, (fun t ht => ha5 t (by omega)), rfl⟩ hP hD
      · skip
        refine lv_aload_n hx hb dJ7_fill_53178_10 rfl (lv_at hl 0 rfl) ?_
        refine lv_iload_n hx hb dJ7_fill_53178_11 rfl (lv_at hl 2 rfl) ?_
        refine lv_iload_n hx hb dJ7_fill_53178_12 rfl (lv_at hl 1 rfl) ?_
        refine xa_iast hx hb hK hP hD hS 0 0 rfl rfl (by omega) (by decide) dJ7_fill_53178_13 (fun H locs hP hD hS => ?_)
        have hP : va_P (dC, dI) vwCl (wRw1 h cs I L A Q (va_up G 0 (va_up (va_up (G 0) 1 ff) 1 (upd ((va_up (G 0) 1 ff) 1) n v))) J) H := hP
        have hD : va_D A0 (wRw1 h cs I L A Q (va_up G 0 (va_up (va_up (G 0) 1 ff) 1 (upd ((va_up (G 0) 1 ff) 1) n v))) J) := hD
        refine lv_iinc (v := nI (n + 1)) (lv' := [(2, .int (nI (n + 1))), (0, .ref (h 132)), (1, .int v), (3, .int (nI 4))]) hx hb dJ7_fill_53178_14 hl (k := 2) rfl (nI_1 _) (by decide) rfl (fun ls hl => ?_)
        refine lv_goto (tgt := 5) hx hb dJ7_fill_53178_17 (by decide) ?_
        exact ih_5 (n + 1) (upd ff n v) (by omega) (by first | assumption | omega) (by first | exact fun t ht => absurd ht (Nat.not_lt_zero t) | exact fa1 ha5) _ _ _ hP hD hS (lv_sub hl [1, 2, 0, 3] rfl)
  exact cut_5 _ 0 (G 0 1) (Nat.lt_succ_self _) (by first | assumption | omega) (by first | exact fun t ht => absurd ht (Nat.not_lt_zero t) | exact fa1 ha5) _ _ _ hP hD hS (lv_sub hl [2, 3, 1, 0] rfl)
set_option maxHeartbeats 4000000 in
set_option maxRecDepth 100000 in
theorem k_fill_row2 (l : Launch) (dC : Nat → ClassId) (dI : Nat → Nat → Nat) (h : Nat → Nat) (cs : Nat → ClassId) (sz : Nat) (I : Nat → Int32) (L : Nat → Int64) (A : Nat → Nat → Int32) (Q : Nat → Nat → Int64) (G : Nat → Nat → Nat → Int32) (J : Nat → Nat → Nat → Int64) (v : Int32) : Met l yJ7_fill_53178 wsJ7_fill_53178 ({ frames := 0, cells := 0, slots := 0, locals := 0 }) (va_Pc [.ref (h 133), .int v] (xPre (dC, dI) (wRw2 h cs I L A Q G J) (tysA cs) sz)) (va_Qv (fun (u : CS) => ∃ f9 : Nat → Int32, (∀ t : Nat, t < 4 → f9 t = v) ∧ u = (I, L, A, Q, (va_up G 0 (va_up (G 0) 2 f9)), J)) (xB (dC, dI) (tysA cs) (va_A (wRw2 h cs I L A Q G J) sz) (fun u : CS => wRw2 h cs u.1 u.2.1 u.2.2.1 u.2.2.2.1 u.2.2.2.2.1 u.2.2.2.2.2)) (va_A (wRw2 h cs I L A Q G J) sz)) 0 0 (va_A (wRw2 h cs I L A Q G J) sz) := by
  refine Met.ofW (cc := cJ7_fill_53178) (maxL := 4) (ret := none) (by decide) rfl ?_
  intro p e s m args below meth c s₁ B hml hv
  obtain ⟨rfl, hsz, hP, hK, hD0, hN⟩ := hv
  have hx := B.exec
  have hb := B.bytes
  have hr := B.returns
  have hts := atoms_spec (ws := wsJ7_fill_53178) B.pre
  have hown : s.vm.findClass RJ7 = some m.cls := findClass_of_methodNamed B.named
  have hlocks := B.notSynchronized
  subst hsz
  have hD := hD0.self (sz := s.heap.size)
  generalize hAe : va_A (wRw2 h cs I L A Q G J) s.heap.size = A0 at hD ⊢
  have hA : ∀ q : Nat, s.heap.size ≤ q → A0 q := fun q h => by rw [← hAe]; exact Or.inr h
  have hl := lv_entry ([.ref (h 133), .int v]) (n := 4) (Nat.le_of_ble_eq_true rfl)
  rw [lg_entry_eq]
  generalize (lg_sl ([.ref (h 133), .int v]) ++ List.replicate (4 - (lg_sl ([.ref (h 133), .int v])).length) Slot.unset).toArray = ls at hl ⊢
  have hl : lv_has ls 4 [(0, .ref (h 133)), (1, .int v)] := hl
  generalize hH : s.heap = H at hP ⊢
  have hS : va_S A0 s.heap H [] := by rw [← hH]; exact va_S.rf
  refine lv_iconst (v := nI 0) hx hb dJ7_fill_53178_0 (by decide) ?_
  refine lv_istore_n (lv' := [(2, .int (nI 0)), (0, .ref (h 133)), (1, .int v)]) hx hb dJ7_fill_53178_1 rfl hl (by decide) rfl (fun ls hl => ?_)
  refine lv_aload_n hx hb dJ7_fill_53178_2 rfl (lv_at hl 1 rfl) ?_
  refine xa_alen hx hb hK hP 0 0 rfl rfl (n := 4) rfl dJ7_fill_53178_3 ?_
  refine lv_istore_n (lv' := [(3, .int (nI 4)), (2, .int (nI 0)), (0, .ref (h 133)), (1, .int v)]) hx hb dJ7_fill_53178_4 rfl hl (by decide) rfl (fun ls hl => ?_)
  have cut_5 : ∀ (nf : Nat) (n : Nat) (ff : Nat → Int32), (4 - n) < nf → (n ≤ 4) → (∀ t : Nat, t < n → ff t = v) → ∀ (H : Heap) (locs : List Loc) (ls : Array Slot), va_P (dC, dI) vwCl (wRw2 h cs I L A Q (va_up G 0 (va_up (G 0) 2 ff)) J) H → va_D A0 (wRw2 h cs I L A Q (va_up G 0 (va_up (G 0) 2 ff)) J) → va_S A0 s.heap H locs → lv_has ls 4 [(0, .ref (h 133)), (1, .int v), (2, .int (nI n)), (3, .int (nI 4))] → W p l e (headSpec wsJ7_fill_53178 ({ frames := 0, cells := 0, slots := 0, locals := 0 })).room s m ([.ref (h 133), .int v] : List Value).toArray below meth c H locs 0 0 (MQ below (va_Qv (fun (u : CS) => ∃ f9 : Nat → Int32, (∀ t : Nat, t < 4 → f9 t = v) ∧ u = (I, L, A, Q, (va_up G 0 (va_up (G 0) 2 f9)), J)) (xB (dC, dI) (tysA cs) A0 (fun u : CS => wRw2 h cs u.1 u.2.1 u.2.2.1 u.2.2.2.1 u.2.2.2.2.1 u.2.2.2.2.2)) A0) ([.ref (h 133), .int v] : List Value).toArray s 0 0 A0) (F0 m 5 ls []) := by
    intro nf
    induction nf with
    | zero => intro n ff hm; exact absurd hm (Nat.not_lt_zero _)
    | succ nf ih_5 =>
      intro n ff hm_5 hn5 ha5 H locs ls hP hD hS hl
      refine lv_iload_n hx hb dJ7_fill_53178_5 rfl (lv_at hl 2 rfl) ?_
      refine lv_iload_n hx hb dJ7_fill_53178_6 rfl (lv_at hl 3 rfl) ?_
      refine xn_ge (tgt := 20) hx hb dJ7_fill_53178_7 (by decide) (by omega) (by omega) (fun c_7_0 => ?_) (fun c_7_0 => ?_)
      · skip
        exact xr_v hx hb hr hlocks hK hS dJ7_fill_53178_20 (I, L, A, Q, (va_up G 0 (va_up (G 0) 2 ff)), J) ⟨ff, (fun t ht => ha5 t (by omega)), rfl⟩ hP hD
      · skip
        refine lv_aload_n hx hb dJ7_fill_53178_10 rfl (lv_at hl 0 rfl) ?_
        refine lv_iload_n hx hb dJ7_fill_53178_11 rfl (lv_at hl 2 rfl) ?_
        refine lv_iload_n hx hb dJ7_fill_53178_12 rfl (lv_at hl 1 rfl) ?_
        refine xa_iast hx hb hK hP hD hS 0 0 rfl rfl (by omega) (by decide) dJ7_fill_53178_13 (fun H locs hP hD hS => ?_)
        have hP : va_P (dC, dI) vwCl (wRw2 h cs I L A Q (va_up G 0 (va_up (va_up (G 0) 2 ff) 2 (upd ((va_up (G 0) 2 ff) 2) n v))) J) H := hP
        have hD : va_D A0 (wRw2 h cs I L A Q (va_up G 0 (va_up (va_up (G 0) 2 ff) 2 (upd ((va_up (G 0) 2 ff) 2) n v))) J) := hD
        refine lv_iinc (v := nI (n + 1)) (lv' := [(2, .int (nI (n + 1))), (0, .ref (h 133)), (1, .int v), (3, .int (nI 4))]) hx hb dJ7_fill_53178_14 hl (k := 2) rfl (nI_1 _) (by decide) rfl (fun ls hl => ?_)
        refine lv_goto (tgt := 5) hx hb dJ7_fill_53178_17 (by decide) ?_
        exact ih_5 (n + 1) (upd ff n v) (by omega) (by first | assumption | omega) (by first | exact fun t ht => absurd ht (Nat.not_lt_zero t) | exact fa1 ha5) _ _ _ hP hD hS (lv_sub hl [1, 2, 0, 3] rfl)
  exact cut_5 _ 0 (G 0 2) (Nat.lt_succ_self _) (by first | assumption | omega) (by first | exact fun t ht => absurd ht (Nat.not_lt_zero t) | exact fa1 ha5) _ _ _ hP hD hS (lv_sub hl [2, 3, 1, 0] rfl)
set_option maxHeartbeats 4000000 in
set_option maxRecDepth 100000 in
theorem k_fill_row3 (l : Launch) (dC : Nat → ClassId) (dI : Nat → Nat → Nat) (h : Nat → Nat) (cs : Nat → ClassId) (sz : Nat) (I : Nat → Int32) (L : Nat → Int64) (A : Nat → Nat → Int32) (Q : Nat → Nat → Int64) (G : Nat → Nat → Nat → Int32) (J : Nat → Nat → Nat → Int64) (v : Int32) : Met l yJ7_fill_53178 wsJ7_fill_53178 ({ frames := 0, cells := 0, slots := 0, locals := 0 }) (va_Pc [.ref (h 134), .int v] (xPre (dC, dI) (wRw3 h cs I L A Q G J) (tysA cs) sz)) (va_Qv (fun (u : CS) => ∃ f9 : Nat → Int32, (∀ t : Nat, t < 4 → f9 t = v) ∧ u = (I, L, A, Q, (va_up G 0 (va_up (G 0) 3 f9)), J)) (xB (dC, dI) (tysA cs) (va_A (wRw3 h cs I L A Q G J) sz) (fun u : CS => wRw3 h cs u.1 u.2.1 u.2.2.1 u.2.2.2.1 u.2.2.2.2.1 u.2.2.2.2.2)) (va_A (wRw3 h cs I L A Q G J) sz)) 0 0 (va_A (wRw3 h cs I L A Q G J) sz) := by
  refine Met.ofW (cc := cJ7_fill_53178) (maxL := 4) (ret := none) (by decide) rfl ?_
  intro p e s m args below meth c s₁ B hml hv
  obtain ⟨rfl, hsz, hP, hK, hD0, hN⟩ := hv
  have hx := B.exec
  have hb := B.bytes
  have hr := B.returns
  have hts := atoms_spec (ws := wsJ7_fill_53178) B.pre
  have hown : s.vm.findClass RJ7 = some m.cls := findClass_of_methodNamed B.named
  have hlocks := B.notSynchronized
  subst hsz
  have hD := hD0.self (sz := s.heap.size)
  generalize hAe : va_A (wRw3 h cs I L A Q G J) s.heap.size = A0 at hD ⊢
  have hA : ∀ q : Nat, s.heap.size ≤ q → A0 q := fun q h => by rw [← hAe]; exact Or.inr h
  have hl := lv_entry ([.ref (h 134), .int v]) (n := 4) (Nat.le_of_ble_eq_true rfl)
  rw [lg_entry_eq]
  generalize (lg_sl ([.ref (h 134), .int v]) ++ List.replicate (4 - (lg_sl ([.ref (h 134), .int v])).length) Slot.unset).toArray = ls at hl ⊢
  have hl : lv_has ls 4 [(0, .ref (h 134)), (1, .int v)] := hl
  generalize hH : s.heap = H at hP ⊢
  have hS : va_S A0 s.heap H [] := by rw [← hH]; exact va_S.rf
  refine lv_iconst (v := nI 0) hx hb dJ7_fill_53178_0 (by decide) ?_
  refine lv_istore_n (lv' := [(2, .int (nI 0)), (0, .ref (h 134)), (1, .int v)]) hx hb dJ7_fill_53178_1 rfl hl (by decide) rfl (fun ls hl => ?_)
  refine lv_aload_n hx hb dJ7_fill_53178_2 rfl (lv_at hl 1 rfl) ?_
  refine xa_alen hx hb hK hP 0 0 rfl rfl (n := 4) rfl dJ7_fill_53178_3 ?_
  refine lv_istore_n (lv' := [(3, .int (nI 4)), (2, .int (nI 0)), (0, .ref (h 134)), (1, .int v)]) hx hb dJ7_fill_53178_4 rfl hl (by decide) rfl (fun ls hl => ?_)
  have cut_5 : ∀ (nf : Nat) (n : Nat) (ff : Nat → Int32), (4 - n) < nf → (n ≤ 4) → (∀ t : Nat, t < n → ff t = v) → ∀ (H : Heap) (locs : List Loc) (ls : Array Slot), va_P (dC, dI) vwCl (wRw3 h cs I L A Q (va_up G 0 (va_up (G 0) 3 ff)) J) H → va_D A0 (wRw3 h cs I L A Q (va_up G 0 (va_up (G 0) 3 ff)) J) → va_S A0 s.heap H locs → lv_has ls 4 [(0, .ref (h 134)), (1, .int v), (2, .int (nI n)), (3, .int (nI 4))] → W p l e (headSpec wsJ7_fill_53178 ({ frames := 0, cells := 0, slots := 0, locals := 0 })).room s m ([.ref (h 134), .int v] : List Value).toArray below meth c H locs 0 0 (MQ below (va_Qv (fun (u : CS) => ∃ f9 : Nat → Int32, (∀ t : Nat, t < 4 → f9 t = v) ∧ u = (I, L, A, Q, (va_up G 0 (va_up (G 0) 3 f9)), J)) (xB (dC, dI) (tysA cs) A0 (fun u : CS => wRw3 h cs u.1 u.2.1 u.2.2.1 u.2.2.2.1 u.2.2.2.2.1 u.2.2.2.2.2)) A0) ([.ref (h 134), .int v] : List Value).toArray s 0 0 A0) (F0 m 5 ls []) := by
    intro nf
    induction nf with
    | zero => intro n ff hm; exact absurd hm (Nat.not_lt_zero _)
    | succ nf ih_5 =>
      intro n ff hm_5 hn5 ha5 H locs ls hP hD hS hl
      refine lv_iload_n hx hb dJ7_fill_53178_5 rfl (lv_at hl 2 rfl) ?_
      refine lv_iload_n hx hb dJ7_fill_53178_6 rfl (lv_at hl 3 rfl) ?_
      refine xn_ge (tgt := 20) hx hb dJ7_fill_53178_7 (by decide) (by omega) (by omega) (fun c_7_0 => ?_) (fun c_7_0 => ?_)
      · skip
        exact xr_v hx hb hr hlocks hK hS dJ7_fill_53178_20 (I, L, A, Q, (va_up G 0 (va_up (G 0) 3 ff)), J) ⟨ff, (fun t ht => ha5 t (by omega)), rfl⟩ hP hD
      · skip
        refine lv_aload_n hx hb dJ7_fill_53178_10 rfl (lv_at hl 0 rfl) ?_
        refine lv_iload_n hx hb dJ7_fill_53178_11 rfl (lv_at hl 2 rfl) ?_
        refine lv_iload_n hx hb dJ7_fill_53178_12 rfl (lv_at hl 1 rfl) ?_
        refine xa_iast hx hb hK hP hD hS 0 0 rfl rfl (by omega) (by decide) dJ7_fill_53178_13 (fun H locs hP hD hS => ?_)
        have hP : va_P (dC, dI) vwCl (wRw3 h cs I L A Q (va_up G 0 (va_up (va_up (G 0) 3 ff) 3 (upd ((va_up (G 0) 3 ff) 3) n v))) J) H := hP
        have hD : va_D A0 (wRw3 h cs I L A Q (va_up G 0 (va_up (va_up (G 0) 3 ff) 3 (upd ((va_up (G 0) 3 ff) 3) n v))) J) := hD
        refine lv_iinc (v := nI (n + 1)) (lv' := [(2, .int (nI (n + 1))), (0, .ref (h 134)), (1, .int v), (3, .int (nI 4))]) hx hb dJ7_fill_53178_14 hl (k := 2) rfl (nI_1 _) (by decide) rfl (fun ls hl => ?_)
        refine lv_goto (tgt := 5) hx hb dJ7_fill_53178_17 (by decide) ?_
        exact ih_5 (n + 1) (upd ff n v) (by omega) (by first | assumption | omega) (by first | exact fun t ht => absurd ht (Nat.not_lt_zero t) | exact fa1 ha5) _ _ _ hP hD hS (lv_sub hl [1, 2, 0, 3] rfl)
  exact cut_5 _ 0 (G 0 3) (Nat.lt_succ_self _) (by first | assumption | omega) (by first | exact fun t ht => absurd ht (Nat.not_lt_zero t) | exact fa1 ha5) _ _ _ hP hD hS (lv_sub hl [2, 3, 1, 0] rfl)
set_option maxHeartbeats 4000000 in
set_option maxRecDepth 100000 in
theorem k_fill_row4 (l : Launch) (dC : Nat → ClassId) (dI : Nat → Nat → Nat) (h : Nat → Nat) (cs : Nat → ClassId) (sz : Nat) (I : Nat → Int32) (L : Nat → Int64) (A : Nat → Nat → Int32) (Q : Nat → Nat → Int64) (G : Nat → Nat → Nat → Int32) (J : Nat → Nat → Nat → Int64) (v : Int32) : Met l yJ7_fill_53178 wsJ7_fill_53178 ({ frames := 0, cells := 0, slots := 0, locals := 0 }) (va_Pc [.ref (h 135), .int v] (xPre (dC, dI) (wRw4 h cs I L A Q G J) (tysA cs) sz)) (va_Qv (fun (u : CS) => ∃ f9 : Nat → Int32, (∀ t : Nat, t < 4 → f9 t = v) ∧ u = (I, L, A, Q, (va_up G 0 (va_up (G 0) 4 f9)), J)) (xB (dC, dI) (tysA cs) (va_A (wRw4 h cs I L A Q G J) sz) (fun u : CS => wRw4 h cs u.1 u.2.1 u.2.2.1 u.2.2.2.1 u.2.2.2.2.1 u.2.2.2.2.2)) (va_A (wRw4 h cs I L A Q G J) sz)) 0 0 (va_A (wRw4 h cs I L A Q G J) sz) := by
  refine Met.ofW (cc := cJ7_fill_53178) (maxL := 4) (ret := none) (by decide) rfl ?_
  intro p e s m args below meth c s₁ B hml hv
  obtain ⟨rfl, hsz, hP, hK, hD0, hN⟩ := hv
  have hx := B.exec
  have hb := B.bytes
  have hr := B.returns
  have hts := atoms_spec (ws := wsJ7_fill_53178) B.pre
  have hown : s.vm.findClass RJ7 = some m.cls := findClass_of_methodNamed B.named
  have hlocks := B.notSynchronized
  subst hsz
  have hD := hD0.self (sz := s.heap.size)
  generalize hAe : va_A (wRw4 h cs I L A Q G J) s.heap.size = A0 at hD ⊢
  have hA : ∀ q : Nat, s.heap.size ≤ q → A0 q := fun q h => by rw [← hAe]; exact Or.inr h
  have hl := lv_entry ([.ref (h 135), .int v]) (n := 4) (Nat.le_of_ble_eq_true rfl)
  rw [lg_entry_eq]
  generalize (lg_sl ([.ref (h 135), .int v]) ++ List.replicate (4 - (lg_sl ([.ref (h 135), .int v])).length) Slot.unset).toArray = ls at hl ⊢
  have hl : lv_has ls 4 [(0, .ref (h 135)), (1, .int v)] := hl
  generalize hH : s.heap = H at hP ⊢
  have hS : va_S A0 s.heap H [] := by rw [← hH]; exact va_S.rf
  refine lv_iconst (v := nI 0) hx hb dJ7_fill_53178_0 (by decide) ?_
  refine lv_istore_n (lv' := [(2, .int (nI 0)), (0, .ref (h 135)), (1, .int v)]) hx hb dJ7_fill_53178_1 rfl hl (by decide) rfl (fun ls hl => ?_)
  refine lv_aload_n hx hb dJ7_fill_53178_2 rfl (lv_at hl 1 rfl) ?_
  refine xa_alen hx hb hK hP 0 0 rfl rfl (n := 4) rfl dJ7_fill_53178_3 ?_
  refine lv_istore_n (lv' := [(3, .int (nI 4)), (2, .int (nI 0)), (0, .ref (h 135)), (1, .int v)]) hx hb dJ7_fill_53178_4 rfl hl (by decide) rfl (fun ls hl => ?_)
  have cut_5 : ∀ (nf : Nat) (n : Nat) (ff : Nat → Int32), (4 - n) < nf → (n ≤ 4) → (∀ t : Nat, t < n → ff t = v) → ∀ (H : Heap) (locs : List Loc) (ls : Array Slot), va_P (dC, dI) vwCl (wRw4 h cs I L A Q (va_up G 0 (va_up (G 0) 4 ff)) J) H → va_D A0 (wRw4 h cs I L A Q (va_up G 0 (va_up (G 0) 4 ff)) J) → va_S A0 s.heap H locs → lv_has ls 4 [(0, .ref (h 135)), (1, .int v), (2, .int (nI n)), (3, .int (nI 4))] → W p l e (headSpec wsJ7_fill_53178 ({ frames := 0, cells := 0, slots := 0, locals := 0 })).room s m ([.ref (h 135), .int v] : List Value).toArray below meth c H locs 0 0 (MQ below (va_Qv (fun (u : CS) => ∃ f9 : Nat → Int32, (∀ t : Nat, t < 4 → f9 t = v) ∧ u = (I, L, A, Q, (va_up G 0 (va_up (G 0) 4 f9)), J)) (xB (dC, dI) (tysA cs) A0 (fun u : CS => wRw4 h cs u.1 u.2.1 u.2.2.1 u.2.2.2.1 u.2.2.2.2.1 u.2.2.2.2.2)) A0) ([.ref (h 135), .int v] : List Value).toArray s 0 0 A0) (F0 m 5 ls []) := by
    intro nf
    induction nf with
    | zero => intro n ff hm; exact absurd hm (Nat.not_lt_zero _)
    | succ nf ih_5 =>
      intro n ff hm_5 hn5 ha5 H locs ls hP hD hS hl
      refine lv_iload_n hx hb dJ7_fill_53178_5 rfl (lv_at hl 2 rfl) ?_
      refine lv_iload_n hx hb dJ7_fill_53178_6 rfl (lv_at hl 3 rfl) ?_
      refine xn_ge (tgt := 20) hx hb dJ7_fill_53178_7 (by decide) (by omega) (by omega) (fun c_7_0 => ?_) (fun c_7_0 => ?_)
      · skip
        exact xr_v hx hb hr hlocks hK hS dJ7_fill_53178_20 (I, L, A, Q, (va_up G 0 (va_up (G 0) 4 ff)), J) ⟨ff, (fun t ht => ha5 t (by omega)), rfl⟩ hP hD
      · skip
        refine lv_aload_n hx hb dJ7_fill_53178_10 rfl (lv_at hl 0 rfl) ?_
        refine lv_iload_n hx hb dJ7_fill_53178_11 rfl (lv_at hl 2 rfl) ?_
        refine lv_iload_n hx hb dJ7_fill_53178_12 rfl (lv_at hl 1 rfl) ?_
        refine xa_iast hx hb hK hP hD hS 0 0 rfl rfl (by omega) (by decide) dJ7_fill_53178_13 (fun H locs hP hD hS => ?_)
        have hP : va_P (dC, dI) vwCl (wRw4 h cs I L A Q (va_up G 0 (va_up (va_up (G 0) 4 ff) 4 (upd ((va_up (G 0) 4 ff) 4) n v))) J) H := hP
        have hD : va_D A0 (wRw4 h cs I L A Q (va_up G 0 (va_up (va_up (G 0) 4 ff) 4 (upd ((va_up (G 0) 4 ff) 4) n v))) J) := hD
        refine lv_iinc (v := nI (n + 1)) (lv' := [(2, .int (nI (n + 1))), (0, .ref (h 135)), (1, .int v), (3, .int (nI 4))]) hx hb dJ7_fill_53178_14 hl (k := 2) rfl (nI_1 _) (by decide) rfl (fun ls hl => ?_)
        refine lv_goto (tgt := 5) hx hb dJ7_fill_53178_17 (by decide) ?_
        exact ih_5 (n + 1) (upd ff n v) (by omega) (by first | assumption | omega) (by first | exact fun t ht => absurd ht (Nat.not_lt_zero t) | exact fa1 ha5) _ _ _ hP hD hS (lv_sub hl [1, 2, 0, 3] rfl)
  exact cut_5 _ 0 (G 0 4) (Nat.lt_succ_self _) (by first | assumption | omega) (by first | exact fun t ht => absurd ht (Nat.not_lt_zero t) | exact fa1 ha5) _ _ _ hP hD hS (lv_sub hl [2, 3, 1, 0] rfl)
set_option maxHeartbeats 4000000 in
set_option maxRecDepth 100000 in
theorem k_fill_heard (l : Launch) (dC : Nat → ClassId) (dI : Nat → Nat → Nat) (h : Nat → Nat) (cs : Nat → ClassId) (sz : Nat) (I : Nat → Int32) (L : Nat → Int64) (A : Nat → Nat → Int32) (Q : Nat → Nat → Int64) (G : Nat → Nat → Nat → Int32) (J : Nat → Nat → Nat → Int64) (v : Int32) : Met l yJ7_fill_53178 wsJ7_fill_53178 ({ frames := 0, cells := 0, slots := 0, locals := 0 }) (va_Pc [.ref (h 136), .int v] (xPre (dC, dI) (wHd h cs I L A Q G J) (tysA cs) sz)) (va_Qv (fun (u : CS) => ∃ a136 : Nat → Int32, (∀ t : Nat, t < 5 → a136 t = v) ∧ u = (I, L, (va_up A 136 a136), Q, G, J)) (xB (dC, dI) (tysA cs) (va_A (wHd h cs I L A Q G J) sz) (fun u : CS => wHd h cs u.1 u.2.1 u.2.2.1 u.2.2.2.1 u.2.2.2.2.1 u.2.2.2.2.2)) (va_A (wHd h cs I L A Q G J) sz)) 0 0 (va_A (wHd h cs I L A Q G J) sz) := by
  refine Met.ofW (cc := cJ7_fill_53178) (maxL := 4) (ret := none) (by decide) rfl ?_
  intro p e s m args below meth c s₁ B hml hv
  obtain ⟨rfl, hsz, hP, hK, hD0, hN⟩ := hv
  have hx := B.exec
  have hb := B.bytes
  have hr := B.returns
  have hts := atoms_spec (ws := wsJ7_fill_53178) B.pre
  have hown : s.vm.findClass RJ7 = some m.cls := findClass_of_methodNamed B.named
  have hlocks := B.notSynchronized
  subst hsz
  have hD := hD0.self (sz := s.heap.size)
  generalize hAe : va_A (wHd h cs I L A Q G J) s.heap.size = A0 at hD ⊢
  have hA : ∀ q : Nat, s.heap.size ≤ q → A0 q := fun q h => by rw [← hAe]; exact Or.inr h
  have hl := lv_entry ([.ref (h 136), .int v]) (n := 4) (Nat.le_of_ble_eq_true rfl)
  rw [lg_entry_eq]
  generalize (lg_sl ([.ref (h 136), .int v]) ++ List.replicate (4 - (lg_sl ([.ref (h 136), .int v])).length) Slot.unset).toArray = ls at hl ⊢
  have hl : lv_has ls 4 [(0, .ref (h 136)), (1, .int v)] := hl
  generalize hH : s.heap = H at hP ⊢
  have hS : va_S A0 s.heap H [] := by rw [← hH]; exact va_S.rf
  refine lv_iconst (v := nI 0) hx hb dJ7_fill_53178_0 (by decide) ?_
  refine lv_istore_n (lv' := [(2, .int (nI 0)), (0, .ref (h 136)), (1, .int v)]) hx hb dJ7_fill_53178_1 rfl hl (by decide) rfl (fun ls hl => ?_)
  refine lv_aload_n hx hb dJ7_fill_53178_2 rfl (lv_at hl 1 rfl) ?_
  refine xa_alen hx hb hK hP 0 0 rfl rfl (n := 5) rfl dJ7_fill_53178_3 ?_
  refine lv_istore_n (lv' := [(3, .int (nI 5)), (2, .int (nI 0)), (0, .ref (h 136)), (1, .int v)]) hx hb dJ7_fill_53178_4 rfl hl (by decide) rfl (fun ls hl => ?_)
  have cut_5 : ∀ (nf : Nat) (n : Nat) (ff : Nat → Int32), (5 - n) < nf → (n ≤ 5) → (∀ t : Nat, t < n → ff t = v) → ∀ (H : Heap) (locs : List Loc) (ls : Array Slot), va_P (dC, dI) vwCl (wHd h cs I L (va_up A 136 ff) Q G J) H → va_D A0 (wHd h cs I L (va_up A 136 ff) Q G J) → va_S A0 s.heap H locs → lv_has ls 4 [(0, .ref (h 136)), (1, .int v), (2, .int (nI n)), (3, .int (nI 5))] → W p l e (headSpec wsJ7_fill_53178 ({ frames := 0, cells := 0, slots := 0, locals := 0 })).room s m ([.ref (h 136), .int v] : List Value).toArray below meth c H locs 0 0 (MQ below (va_Qv (fun (u : CS) => ∃ a136 : Nat → Int32, (∀ t : Nat, t < 5 → a136 t = v) ∧ u = (I, L, (va_up A 136 a136), Q, G, J)) (xB (dC, dI) (tysA cs) A0 (fun u : CS => wHd h cs u.1 u.2.1 u.2.2.1 u.2.2.2.1 u.2.2.2.2.1 u.2.2.2.2.2)) A0) ([.ref (h 136), .int v] : List Value).toArray s 0 0 A0) (F0 m 5 ls []) := by
    intro nf
    induction nf with
    | zero => intro n ff hm; exact absurd hm (Nat.not_lt_zero _)
    | succ nf ih_5 =>
      intro n ff hm_5 hn5 ha5 H locs ls hP hD hS hl
      refine lv_iload_n hx hb dJ7_fill_53178_5 rfl (lv_at hl 2 rfl) ?_
      refine lv_iload_n hx hb dJ7_fill_53178_6 rfl (lv_at hl 3 rfl) ?_
      refine xn_ge (tgt := 20) hx hb dJ7_fill_53178_7 (by decide) (by omega) (by omega) (fun c_7_0 => ?_) (fun c_7_0 => ?_)
      · skip
        exact xr_v hx hb hr hlocks hK hS dJ7_fill_53178_20 (I, L, (va_up A 136 ff), Q, G, J) ⟨ff, (fun t ht => ha5 t (by omega)), rfl⟩ hP hD
      · skip
        refine lv_aload_n hx hb dJ7_fill_53178_10 rfl (lv_at hl 0 rfl) ?_
        refine lv_iload_n hx hb dJ7_fill_53178_11 rfl (lv_at hl 2 rfl) ?_
        refine lv_iload_n hx hb dJ7_fill_53178_12 rfl (lv_at hl 1 rfl) ?_
        refine xa_iast hx hb hK hP hD hS 0 0 rfl rfl (by omega) (by decide) dJ7_fill_53178_13 (fun H locs hP hD hS => ?_)
        have hP : va_P (dC, dI) vwCl (wHd h cs I L (va_up A 136 (upd ff n v)) Q G J) H := hP
        have hD : va_D A0 (wHd h cs I L (va_up A 136 (upd ff n v)) Q G J) := hD
        refine lv_iinc (v := nI (n + 1)) (lv' := [(2, .int (nI (n + 1))), (0, .ref (h 136)), (1, .int v), (3, .int (nI 5))]) hx hb dJ7_fill_53178_14 hl (k := 2) rfl (nI_1 _) (by decide) rfl (fun ls hl => ?_)
        refine lv_goto (tgt := 5) hx hb dJ7_fill_53178_17 (by decide) ?_
        exact ih_5 (n + 1) (upd ff n v) (by omega) (by first | assumption | omega) (by first | exact fun t ht => absurd ht (Nat.not_lt_zero t) | exact fa1 ha5) _ _ _ hP hD hS (lv_sub hl [1, 2, 0, 3] rfl)
  exact cut_5 _ 0 (A 136) (Nat.lt_succ_self _) (by first | assumption | omega) (by first | exact fun t ht => absurd ht (Nat.not_lt_zero t) | exact fa1 ha5) _ _ _ hP hD hS (lv_sub hl [2, 3, 1, 0] rfl)
set_option maxRecDepth 20000 in
theorem ggX3_reshape_J7_fill_53178 : GoodIn wsX3_reshape wsJ7_fill_53178 := goodIn_r _ [9] rfl (by decide +kernel)
set_option maxRecDepth 20000 in
theorem gX3_reshape_J7_fill_53178 : GoodIn wsX3_reshape (va_wsS RX3 37 yJ7_fill_53178 wsJ7_fill_53178) := goodIn_app (goodIn_of _ (by decide +kernel)) ggX3_reshape_J7_fill_53178
theorem bdX3_reshape_0 : (decode cX3_reshape 0 = .ok (.aload_n 0, 1)) ∧ (decode cX3_reshape 1 = .ok (.iload_n 1, 1)) ∧ (decode cX3_reshape 2 = .ok (.putfield 9, 3)) ∧ (decode cX3_reshape 5 = .ok (.aload_n 0, 1)) ∧ (decode cX3_reshape 6 = .ok (.iload_n 2, 1)) ∧ (decode cX3_reshape 7 = .ok (.putfield 15, 3)) ∧ (decode cX3_reshape 10 = .ok (.iconst 0, 1)) ∧ (decode cX3_reshape 11 = .ok (.istore_n 3, 1)) ∧ (decode cX3_reshape 12 = .ok (.iload_n 3, 1)) ∧ (decode cX3_reshape 13 = .ok (.iconst 5, 1)) ∧ (decode cX3_reshape 14 = .ok (.if_icmp .ge 19, 3)) ∧ (decode cX3_reshape 17 = .ok (.aload_n 0, 1)) ∧ (decode cX3_reshape 18 = .ok (.getfield 26, 3)) ∧ (decode cX3_reshape 21 = .ok (.iload_n 3, 1)) ∧ (decode cX3_reshape 22 = .ok (.aaload, 1)) ∧ (decode cX3_reshape 23 = .ok (.iconst 0, 1)) := by decide +kernel
theorem dX3_reshape_0 : decode cX3_reshape 0 = .ok (.aload_n 0, 1) := bdX3_reshape_0.1
theorem dX3_reshape_1 : decode cX3_reshape 1 = .ok (.iload_n 1, 1) := bdX3_reshape_0.2.1
theorem dX3_reshape_2 : decode cX3_reshape 2 = .ok (.putfield 9, 3) := bdX3_reshape_0.2.2.1
theorem dX3_reshape_5 : decode cX3_reshape 5 = .ok (.aload_n 0, 1) := bdX3_reshape_0.2.2.2.1
theorem dX3_reshape_6 : decode cX3_reshape 6 = .ok (.iload_n 2, 1) := bdX3_reshape_0.2.2.2.2.1
theorem dX3_reshape_7 : decode cX3_reshape 7 = .ok (.putfield 15, 3) := bdX3_reshape_0.2.2.2.2.2.1
theorem dX3_reshape_10 : decode cX3_reshape 10 = .ok (.iconst 0, 1) := bdX3_reshape_0.2.2.2.2.2.2.1
theorem dX3_reshape_11 : decode cX3_reshape 11 = .ok (.istore_n 3, 1) := bdX3_reshape_0.2.2.2.2.2.2.2.1
theorem dX3_reshape_12 : decode cX3_reshape 12 = .ok (.iload_n 3, 1) := bdX3_reshape_0.2.2.2.2.2.2.2.2.1
theorem dX3_reshape_13 : decode cX3_reshape 13 = .ok (.iconst 5, 1) := bdX3_reshape_0.2.2.2.2.2.2.2.2.2.1
theorem dX3_reshape_14 : decode cX3_reshape 14 = .ok (.if_icmp .ge 19, 3) := bdX3_reshape_0.2.2.2.2.2.2.2.2.2.2.1
theorem dX3_reshape_17 : decode cX3_reshape 17 = .ok (.aload_n 0, 1) := bdX3_reshape_0.2.2.2.2.2.2.2.2.2.2.2.1
theorem dX3_reshape_18 : decode cX3_reshape 18 = .ok (.getfield 26, 3) := bdX3_reshape_0.2.2.2.2.2.2.2.2.2.2.2.2.1
theorem dX3_reshape_21 : decode cX3_reshape 21 = .ok (.iload_n 3, 1) := bdX3_reshape_0.2.2.2.2.2.2.2.2.2.2.2.2.2.1
theorem dX3_reshape_22 : decode cX3_reshape 22 = .ok (.aaload, 1) := bdX3_reshape_0.2.2.2.2.2.2.2.2.2.2.2.2.2.2.1
theorem dX3_reshape_23 : decode cX3_reshape 23 = .ok (.iconst 0, 1) := bdX3_reshape_0.2.2.2.2.2.2.2.2.2.2.2.2.2.2.2
theorem bdX3_reshape_24 : (decode cX3_reshape 24 = .ok (.invokestatic 37, 3)) ∧ (decode cX3_reshape 27 = .ok (.iinc 3 1, 3)) ∧ (decode cX3_reshape 30 = .ok (.goto (-18), 3)) ∧ (decode cX3_reshape 33 = .ok (.aload_n 0, 1)) ∧ (decode cX3_reshape 34 = .ok (.getfield 29, 3)) ∧ (decode cX3_reshape 37 = .ok (.iconst 0, 1)) ∧ (decode cX3_reshape 38 = .ok (.invokestatic 37, 3)) ∧ (decode cX3_reshape 41 = .ok (.aload_n 0, 1)) ∧ (decode cX3_reshape 42 = .ok (.dup, 1)) ∧ (decode cX3_reshape 43 = .ok (.getfield 21, 3)) ∧ (decode cX3_reshape 46 = .ok (.iconst 1, 1)) ∧ (decode cX3_reshape 47 = .ok (.iadd, 1)) ∧ (decode cX3_reshape 48 = .ok (.putfield 21, 3)) ∧ (decode cX3_reshape 51 = .ok (.return_, 1)) := by decide +kernel
theorem dX3_reshape_24 : decode cX3_reshape 24 = .ok (.invokestatic 37, 3) := bdX3_reshape_24.1
theorem dX3_reshape_27 : decode cX3_reshape 27 = .ok (.iinc 3 1, 3) := bdX3_reshape_24.2.1
theorem dX3_reshape_30 : decode cX3_reshape 30 = .ok (.goto (-18), 3) := bdX3_reshape_24.2.2.1
theorem dX3_reshape_33 : decode cX3_reshape 33 = .ok (.aload_n 0, 1) := bdX3_reshape_24.2.2.2.1
theorem dX3_reshape_34 : decode cX3_reshape 34 = .ok (.getfield 29, 3) := bdX3_reshape_24.2.2.2.2.1
theorem dX3_reshape_37 : decode cX3_reshape 37 = .ok (.iconst 0, 1) := bdX3_reshape_24.2.2.2.2.2.1
theorem dX3_reshape_38 : decode cX3_reshape 38 = .ok (.invokestatic 37, 3) := bdX3_reshape_24.2.2.2.2.2.2.1
theorem dX3_reshape_41 : decode cX3_reshape 41 = .ok (.aload_n 0, 1) := bdX3_reshape_24.2.2.2.2.2.2.2.1
theorem dX3_reshape_42 : decode cX3_reshape 42 = .ok (.dup, 1) := bdX3_reshape_24.2.2.2.2.2.2.2.2.1
theorem dX3_reshape_43 : decode cX3_reshape 43 = .ok (.getfield 21, 3) := bdX3_reshape_24.2.2.2.2.2.2.2.2.2.1
theorem dX3_reshape_46 : decode cX3_reshape 46 = .ok (.iconst 1, 1) := bdX3_reshape_24.2.2.2.2.2.2.2.2.2.2.1
theorem dX3_reshape_47 : decode cX3_reshape 47 = .ok (.iadd, 1) := bdX3_reshape_24.2.2.2.2.2.2.2.2.2.2.2.1
theorem dX3_reshape_48 : decode cX3_reshape 48 = .ok (.putfield 21, 3) := bdX3_reshape_24.2.2.2.2.2.2.2.2.2.2.2.2.1
theorem dX3_reshape_51 : decode cX3_reshape 51 = .ok (.return_, 1) := bdX3_reshape_24.2.2.2.2.2.2.2.2.2.2.2.2.2
set_option maxHeartbeats 4000000 in
set_option maxRecDepth 100000 in
theorem k_X3_reshape (l : Launch) (dC : Nat → ClassId) (dI : Nat → Nat → Nat) (h : Nat → Nat) (cs : Nat → ClassId) (sz : Nat) (I : Nat → Int32) (L : Nat → Int64) (A : Nat → Nat → Int32) (Q : Nat → Nat → Int64) (G : Nat → Nat → Nat → Int32) (J : Nat → Nat → Nat → Int64) (R M sp9 : Nat) (hst : I 123 = nI sp9) (hst2 : sp9 < 1000000000) : Met l yX3_reshape wsX3_reshape ({ frames := 1, cells := 0, slots := 0, locals := 23 }) (va_Pc [.ref (h 101), .int (nI R), .int (nI M)] (xPre (dC, dI) (wMix h cs I L A Q G J) (tysA cs) sz)) (va_Qv (fun (u : CS) => ∃ i120 : Int32, ∃ i121 : Int32, ∃ i123 : Int32, ∃ a136 : Nat → Int32, ∃ g0 : Nat → Nat → Int32, ((∀ q t : Nat, q < 5 → t < 4 → g0 q t = nI 0) ∧ (∀ t : Nat, t < 5 → a136 t = nI 0) ∧ i120 = nI R ∧ i121 = nI M ∧ i123 = nI (sp9 + 1)) ∧ u = ((va_up (va_up (va_up I 120 i120) 121 i121) 123 i123), L, (va_up A 136 a136), Q, (va_up G 0 g0), J)) (xB (dC, dI) (tysA cs) (va_A (wMix h cs I L A Q G J) sz) (fun u : CS => wMix h cs u.1 u.2.1 u.2.2.1 u.2.2.2.1 u.2.2.2.2.1 u.2.2.2.2.2)) (va_A (wMix h cs I L A Q G J) sz)) 0 0 (va_A (wMix h cs I L A Q G J) sz) := by
  refine Met.ofW (cc := cX3_reshape) (maxL := 4) (ret := none) (by decide) rfl ?_
  intro p e s m args below meth c s₁ B hml hv
  obtain ⟨rfl, hsz, hP, hK, hD0, hN⟩ := hv
  have hx := B.exec
  have hb := B.bytes
  have hr := B.returns
  have hts := atoms_spec (ws := wsX3_reshape) B.pre
  have hown : s.vm.findClass RX3 = some m.cls := findClass_of_methodNamed B.named
  have hlocks := B.notSynchronized
  subst hsz
  have hD := hD0.self (sz := s.heap.size)
  generalize hAe : va_A (wMix h cs I L A Q G J) s.heap.size = A0 at hD ⊢
  have hA : ∀ q : Nat, s.heap.size ≤ q → A0 q := fun q h => by rw [← hAe]; exact Or.inr h
  have hl := lv_entry ([.ref (h 101), .int (nI R), .int (nI M)]) (n := 4) (Nat.le_of_ble_eq_true rfl)
  rw [lg_entry_eq]
  generalize (lg_sl ([.ref (h 101), .int (nI R), .int (nI M)]) ++ List.replicate (4 - (lg_sl ([.ref (h 101), .int (nI R), .int (nI M)])).length) Slot.unset).toArray = ls at hl ⊢
  have hl : lv_has ls 4 [(0, .ref (h 101)), (1, .int (nI R)), (2, .int (nI M))] := hl
  generalize hH : s.heap = H at hP ⊢
  have hS : va_S A0 s.heap H [] := by rw [← hH]; exact va_S.rf
  have hinX3 : ∀ w ∈ wsX30, w ∈ wsX3_reshape := by decide +kernel
  refine lv_aload_n hx hb dX3_reshape_0 rfl (lv_at hl 0 rfl) ?_
  refine lv_iload_n hx hb dX3_reshape_1 rfl (lv_at hl 1 rfl) ?_
  refine va_put (D := (dC, dI)) (ci := 3) (v := .int (nI R)) (ty := .int) (C := RX3) (T := TX3) (N := 6) hx hb hts hinX3 tyX3 tyX3_ok nmX3 hown hK hP hD hS 0 rfl rfl 0 (by decide) (hts (.fieldLink RX3 9 "MixedWords$Mix" "height" "I") (by decide +kernel)) (fun _ h9 => h9) rfl (by decide +kernel) rfl rfl (Nat.le_of_ble_eq_true rfl) dX3_reshape_2 (fun H locs hP hD hS => ?_)
  have hP : va_P (dC, dI) vwCl (wMix h cs (va_up I 120 (nI R)) L A Q G J) H := hP
  have hD : va_D A0 (wMix h cs (va_up I 120 (nI R)) L A Q G J) := hD
  refine lv_aload_n hx hb dX3_reshape_5 rfl (lv_at hl 0 rfl) ?_
  refine lv_iload_n hx hb dX3_reshape_6 rfl (lv_at hl 2 rfl) ?_
  refine va_put (D := (dC, dI)) (ci := 3) (v := .int (nI M)) (ty := .int) (C := RX3) (T := TX3) (N := 6) hx hb hts hinX3 tyX3 tyX3_ok nmX3 hown hK hP hD hS 0 rfl rfl 1 (by decide) (hts (.fieldLink RX3 15 "MixedWords$Mix" "width" "I") (by decide +kernel)) (fun _ h9 => h9) rfl (by decide +kernel) rfl rfl (Nat.le_of_ble_eq_true rfl) dX3_reshape_7 (fun H locs hP hD hS => ?_)
  have hP : va_P (dC, dI) vwCl (wMix h cs (va_up (va_up I 120 (nI R)) 121 (nI M)) L A Q G J) H := hP
  have hD : va_D A0 (wMix h cs (va_up (va_up I 120 (nI R)) 121 (nI M)) L A Q G J) := hD
  refine lv_iconst (v := nI 0) hx hb dX3_reshape_10 (by decide) ?_
  refine lv_istore_n (lv' := [(3, .int (nI 0)), (0, .ref (h 101)), (1, .int (nI R)), (2, .int (nI M))]) hx hb dX3_reshape_11 rfl hl (by decide) rfl (fun ls hl => ?_)
  refine lv_iload_n hx hb dX3_reshape_12 rfl (lv_at hl 0 rfl) ?_
  refine lv_iconst (v := nI 5) hx hb dX3_reshape_13 (by decide) ?_
  refine lv_icmp_ge (tgt := 33) hx hb dX3_reshape_14 (by decide) (fun c9 => False.elim (by revert c9; decide +kernel)) (fun _ => ?_)
  refine lv_aload_n hx hb dX3_reshape_17 rfl (lv_at hl 1 rfl) ?_
  refine va_get (D := (dC, dI)) (ci := 3) (v := .ref (h 130)) (C := RX3) (T := TX3) (N := 6) hx hb hts hinX3 hown hK hP 0 rfl rfl 4 (by decide) (hts (.fieldLink RX3 26 "MixedWords$Mix" "cells" "[[I") (by decide +kernel)) (fun _ h9 => h9) rfl dX3_reshape_18 ?_
  refine lv_iload_n hx hb dX3_reshape_21 rfl (lv_at hl 0 rfl) ?_
  refine xa_aald (b := h 131) hx hb hK hP 1 3 rfl rfl rfl (by omega) (by decide) (if_pos (by omega)) dX3_reshape_22 ?_
  refine lv_iconst (v := nI 0) hx hb dX3_reshape_23 (by decide) ?_
  refine xj_v (wc := (wRw0 h cs (va_up (va_up I 120 (nI R)) 121 (nI M)) L A Q G J)) (wr := [(h 101, .inr (3, [.int (nI R), .int (nI M), .int (I 122), .int (I 123), .ref (h 130), .ref (h 136)])), (h 130, .inl (cs 3, 5, .inr (.inr (.inr (.inr (fun i => if i < 5 then some (h (i + 131)) else none)))))), (h 132, .inl (cs 0, 4, .inl ((G 0) 1))), (h 133, .inl (cs 0, 4, .inl ((G 0) 2))), (h 134, .inl (cs 0, 4, .inl ((G 0) 3))), (h 135, .inl (cs 0, 4, .inl ((G 0) 4))), (h 136, .inl (cs 0, 5, .inl (A 136)))]) hP hD hS hA [2] [0, 1, 3, 4, 5, 6, 7] rfl rfl (by decide +kernel) (by decide +kernel) (va_runS (As := [.ref (h 131), .int (nI 0)]) (rest := []) ⟨hx, hb, hml, hown, hts⟩ (k_fill_row0 l dC dI h cs H.size (va_up (va_up I 120 (nI R)) 121 (nI M)) L A Q G J (nI 0)) (va_cwS 2 hts gX3_reshape_J7_fill_53178 rfl rfl rfl (by decide +kernel) ⟨Nat.le_of_ble_eq_true rfl, Nat.le_of_ble_eq_true rfl⟩) (xpS (wc := (wRw0 h cs (va_up (va_up I 120 (nI R)) 121 (nI M)) L A Q G J)) hP hD hK hN [2] rfl (by decide) _) rfl rfl hl.1 rfl (lv_room (Nat.le_of_ble_eq_true rfl)) dX3_reshape_24 ⟨Nat.zero_le _, Nat.zero_le _⟩) (fun u_1 H locs hw hP hD hS => ?_)
  obtain ⟨f9_3, hf_4, rfl⟩ := hw
  have hP : va_P (dC, dI) vwCl (wMix h cs (va_up (va_up I 120 (nI R)) 121 (nI M)) L A Q (va_up G 0 (va_up (G 0) 0 f9_3)) J) H := xP_sub hP [0, 1, 7, 2, 3, 4, 5, 6] rfl
  have hD : va_D A0 (wMix h cs (va_up (va_up I 120 (nI R)) 121 (nI M)) L A Q (va_up G 0 (va_up (G 0) 0 f9_3)) J) := hD.sub [0, 1, 7, 2, 3, 4, 5, 6] (by decide +kernel) rfl
  refine lv_iinc (v := nI 1) (lv' := [(3, .int (nI 1)), (0, .ref (h 101)), (1, .int (nI R)), (2, .int (nI M))]) hx hb dX3_reshape_27 hl (k := 0) rfl (by decide +kernel) (by decide) rfl (fun ls hl => ?_)
  refine lv_goto (tgt := 12) hx hb dX3_reshape_30 (by decide) ?_
  refine lv_iload_n hx hb dX3_reshape_12 rfl (lv_at hl 0 rfl) ?_
  refine lv_iconst (v := nI 5) hx hb dX3_reshape_13 (by decide) ?_
  refine lv_icmp_ge (tgt := 33) hx hb dX3_reshape_14 (by decide) (fun c9 => False.elim (by revert c9; decide +kernel)) (fun _ => ?_)
  refine lv_aload_n hx hb dX3_reshape_17 rfl (lv_at hl 1 rfl) ?_
  refine va_get (D := (dC, dI)) (ci := 3) (v := .ref (h 130)) (C := RX3) (T := TX3) (N := 6) hx hb hts hinX3 hown hK hP 0 rfl rfl 4 (by decide) (hts (.fieldLink RX3 26 "MixedWords$Mix" "cells" "[[I") (by decide +kernel)) (fun _ h9 => h9) rfl dX3_reshape_18 ?_
  refine lv_iload_n hx hb dX3_reshape_21 rfl (lv_at hl 0 rfl) ?_
  refine xa_aald (b := h 132) hx hb hK hP 1 3 rfl rfl rfl (by omega) (by decide) (if_pos (by omega)) dX3_reshape_22 ?_
  refine lv_iconst (v := nI 0) hx hb dX3_reshape_23 (by decide) ?_
  refine xj_v (wc := (wRw1 h cs (va_up (va_up I 120 (nI R)) 121 (nI M)) L A Q (va_up G 0 (va_up (G 0) 0 f9_3)) J)) (wr := [(h 101, .inr (3, [.int (nI R), .int (nI M), .int (I 122), .int (I 123), .ref (h 130), .ref (h 136)])), (h 130, .inl (cs 3, 5, .inr (.inr (.inr (.inr (fun i => if i < 5 then some (h (i + 131)) else none)))))), (h 131, .inl (cs 0, 4, .inl ((va_up (G 0) 0 f9_3) 0))), (h 133, .inl (cs 0, 4, .inl ((va_up (G 0) 0 f9_3) 2))), (h 134, .inl (cs 0, 4, .inl ((va_up (G 0) 0 f9_3) 3))), (h 135, .inl (cs 0, 4, .inl ((va_up (G 0) 0 f9_3) 4))), (h 136, .inl (cs 0, 5, .inl (A 136)))]) hP hD hS hA [3] [0, 1, 2, 4, 5, 6, 7] rfl rfl (by decide +kernel) (by decide +kernel) (va_runS (As := [.ref (h 132), .int (nI 0)]) (rest := []) ⟨hx, hb, hml, hown, hts⟩ (k_fill_row1 l dC dI h cs H.size (va_up (va_up I 120 (nI R)) 121 (nI M)) L A Q (va_up G 0 (va_up (G 0) 0 f9_3)) J (nI 0)) (va_cwS 2 hts gX3_reshape_J7_fill_53178 rfl rfl rfl (by decide +kernel) ⟨Nat.le_of_ble_eq_true rfl, Nat.le_of_ble_eq_true rfl⟩) (xpS (wc := (wRw1 h cs (va_up (va_up I 120 (nI R)) 121 (nI M)) L A Q (va_up G 0 (va_up (G 0) 0 f9_3)) J)) hP hD hK hN [3] rfl (by decide) _) rfl rfl hl.1 rfl (lv_room (Nat.le_of_ble_eq_true rfl)) dX3_reshape_24 ⟨Nat.zero_le _, Nat.zero_le _⟩) (fun u_5 H locs hw hP hD hS => ?_)
  obtain ⟨f9_7, hf_8, rfl⟩ := hw
  have hP : va_P (dC, dI) vwCl (wMix h cs (va_up (va_up I 120 (nI R)) 121 (nI M)) L A Q (va_up G 0 (va_up (va_up (G 0) 0 f9_3) 1 f9_7)) J) H := xP_sub hP [0, 1, 2, 7, 3, 4, 5, 6] rfl
  have hD : va_D A0 (wMix h cs (va_up (va_up I 120 (nI R)) 121 (nI M)) L A Q (va_up G 0 (va_up (va_up (G 0) 0 f9_3) 1 f9_7)) J) := hD.sub [0, 1, 2, 7, 3, 4, 5, 6] (by decide +kernel) rfl
  refine lv_iinc (v := nI 2) (lv' := [(3, .int (nI 2)), (0, .ref (h 101)), (1, .int (nI R)), (2, .int (nI M))]) hx hb dX3_reshape_27 hl (k := 0) rfl (by decide +kernel) (by decide) rfl (fun ls hl => ?_)
  refine lv_goto (tgt := 12) hx hb dX3_reshape_30 (by decide) ?_
  refine lv_iload_n hx hb dX3_reshape_12 rfl (lv_at hl 0 rfl) ?_
  refine lv_iconst (v := nI 5) hx hb dX3_reshape_13 (by decide) ?_
  refine lv_icmp_ge (tgt := 33) hx hb dX3_reshape_14 (by decide) (fun c9 => False.elim (by revert c9; decide +kernel)) (fun _ => ?_)
  refine lv_aload_n hx hb dX3_reshape_17 rfl (lv_at hl 1 rfl) ?_
  refine va_get (D := (dC, dI)) (ci := 3) (v := .ref (h 130)) (C := RX3) (T := TX3) (N := 6) hx hb hts hinX3 hown hK hP 0 rfl rfl 4 (by decide) (hts (.fieldLink RX3 26 "MixedWords$Mix" "cells" "[[I") (by decide +kernel)) (fun _ h9 => h9) rfl dX3_reshape_18 ?_
  refine lv_iload_n hx hb dX3_reshape_21 rfl (lv_at hl 0 rfl) ?_
  refine xa_aald (b := h 133) hx hb hK hP 1 3 rfl rfl rfl (by omega) (by decide) (if_pos (by omega)) dX3_reshape_22 ?_
  refine lv_iconst (v := nI 0) hx hb dX3_reshape_23 (by decide) ?_
  refine xj_v (wc := (wRw2 h cs (va_up (va_up I 120 (nI R)) 121 (nI M)) L A Q (va_up G 0 (va_up (va_up (G 0) 0 f9_3) 1 f9_7)) J)) (wr := [(h 101, .inr (3, [.int (nI R), .int (nI M), .int (I 122), .int (I 123), .ref (h 130), .ref (h 136)])), (h 130, .inl (cs 3, 5, .inr (.inr (.inr (.inr (fun i => if i < 5 then some (h (i + 131)) else none)))))), (h 131, .inl (cs 0, 4, .inl ((va_up (va_up (G 0) 0 f9_3) 1 f9_7) 0))), (h 132, .inl (cs 0, 4, .inl ((va_up (va_up (G 0) 0 f9_3) 1 f9_7) 1))), (h 134, .inl (cs 0, 4, .inl ((va_up (va_up (G 0) 0 f9_3) 1 f9_7) 3))), (h 135, .inl (cs 0, 4, .inl ((va_up (va_up (G 0) 0 f9_3) 1 f9_7) 4))), (h 136, .inl (cs 0, 5, .inl (A 136)))]) hP hD hS hA [4] [0, 1, 2, 3, 5, 6, 7] rfl rfl (by decide +kernel) (by decide +kernel) (va_runS (As := [.ref (h 133), .int (nI 0)]) (rest := []) ⟨hx, hb, hml, hown, hts⟩ (k_fill_row2 l dC dI h cs H.size (va_up (va_up I 120 (nI R)) 121 (nI M)) L A Q (va_up G 0 (va_up (va_up (G 0) 0 f9_3) 1 f9_7)) J (nI 0)) (va_cwS 2 hts gX3_reshape_J7_fill_53178 rfl rfl rfl (by decide +kernel) ⟨Nat.le_of_ble_eq_true rfl, Nat.le_of_ble_eq_true rfl⟩) (xpS (wc := (wRw2 h cs (va_up (va_up I 120 (nI R)) 121 (nI M)) L A Q (va_up G 0 (va_up (va_up (G 0) 0 f9_3) 1 f9_7)) J)) hP hD hK hN [4] rfl (by decide) _) rfl rfl hl.1 rfl (lv_room (Nat.le_of_ble_eq_true rfl)) dX3_reshape_24 ⟨Nat.zero_le _, Nat.zero_le _⟩) (fun u_9 H locs hw hP hD hS => ?_)
  obtain ⟨f9_11, hf_12, rfl⟩ := hw
  have hP : va_P (dC, dI) vwCl (wMix h cs (va_up (va_up I 120 (nI R)) 121 (nI M)) L A Q (va_up G 0 (va_up (va_up (va_up (G 0) 0 f9_3) 1 f9_7) 2 f9_11)) J) H := xP_sub hP [0, 1, 2, 3, 7, 4, 5, 6] rfl
  have hD : va_D A0 (wMix h cs (va_up (va_up I 120 (nI R)) 121 (nI M)) L A Q (va_up G 0 (va_up (va_up (va_up (G 0) 0 f9_3) 1 f9_7) 2 f9_11)) J) := hD.sub [0, 1, 2, 3, 7, 4, 5, 6] (by decide +kernel) rfl
  refine lv_iinc (v := nI 3) (lv' := [(3, .int (nI 3)), (0, .ref (h 101)), (1, .int (nI R)), (2, .int (nI M))]) hx hb dX3_reshape_27 hl (k := 0) rfl (by decide +kernel) (by decide) rfl (fun ls hl => ?_)
  refine lv_goto (tgt := 12) hx hb dX3_reshape_30 (by decide) ?_
  refine lv_iload_n hx hb dX3_reshape_12 rfl (lv_at hl 0 rfl) ?_
  refine lv_iconst (v := nI 5) hx hb dX3_reshape_13 (by decide) ?_
  refine lv_icmp_ge (tgt := 33) hx hb dX3_reshape_14 (by decide) (fun c9 => False.elim (by revert c9; decide +kernel)) (fun _ => ?_)
  refine lv_aload_n hx hb dX3_reshape_17 rfl (lv_at hl 1 rfl) ?_
  refine va_get (D := (dC, dI)) (ci := 3) (v := .ref (h 130)) (C := RX3) (T := TX3) (N := 6) hx hb hts hinX3 hown hK hP 0 rfl rfl 4 (by decide) (hts (.fieldLink RX3 26 "MixedWords$Mix" "cells" "[[I") (by decide +kernel)) (fun _ h9 => h9) rfl dX3_reshape_18 ?_
  refine lv_iload_n hx hb dX3_reshape_21 rfl (lv_at hl 0 rfl) ?_
  refine xa_aald (b := h 134) hx hb hK hP 1 3 rfl rfl rfl (by omega) (by decide) (if_pos (by omega)) dX3_reshape_22 ?_
  refine lv_iconst (v := nI 0) hx hb dX3_reshape_23 (by decide) ?_
  refine xj_v (wc := (wRw3 h cs (va_up (va_up I 120 (nI R)) 121 (nI M)) L A Q (va_up G 0 (va_up (va_up (va_up (G 0) 0 f9_3) 1 f9_7) 2 f9_11)) J)) (wr := [(h 101, .inr (3, [.int (nI R), .int (nI M), .int (I 122), .int (I 123), .ref (h 130), .ref (h 136)])), (h 130, .inl (cs 3, 5, .inr (.inr (.inr (.inr (fun i => if i < 5 then some (h (i + 131)) else none)))))), (h 131, .inl (cs 0, 4, .inl ((va_up (va_up (va_up (G 0) 0 f9_3) 1 f9_7) 2 f9_11) 0))), (h 132, .inl (cs 0, 4, .inl ((va_up (va_up (va_up (G 0) 0 f9_3) 1 f9_7) 2 f9_11) 1))), (h 133, .inl (cs 0, 4, .inl ((va_up (va_up (va_up (G 0) 0 f9_3) 1 f9_7) 2 f9_11) 2))), (h 135, .inl (cs 0, 4, .inl ((va_up (va_up (va_up (G 0) 0 f9_3) 1 f9_7) 2 f9_11) 4))), (h 136, .inl (cs 0, 5, .inl (A 136)))]) hP hD hS hA [5] [0, 1, 2, 3, 4, 6, 7] rfl rfl (by decide +kernel) (by decide +kernel) (va_runS (As := [.ref (h 134), .int (nI 0)]) (rest := []) ⟨hx, hb, hml, hown, hts⟩ (k_fill_row3 l dC dI h cs H.size (va_up (va_up I 120 (nI R)) 121 (nI M)) L A Q (va_up G 0 (va_up (va_up (va_up (G 0) 0 f9_3) 1 f9_7) 2 f9_11)) J (nI 0)) (va_cwS 2 hts gX3_reshape_J7_fill_53178 rfl rfl rfl (by decide +kernel) ⟨Nat.le_of_ble_eq_true rfl, Nat.le_of_ble_eq_true rfl⟩) (xpS (wc := (wRw3 h cs (va_up (va_up I 120 (nI R)) 121 (nI M)) L A Q (va_up G 0 (va_up (va_up (va_up (G 0) 0 f9_3) 1 f9_7) 2 f9_11)) J)) hP hD hK hN [5] rfl (by decide) _) rfl rfl hl.1 rfl (lv_room (Nat.le_of_ble_eq_true rfl)) dX3_reshape_24 ⟨Nat.zero_le _, Nat.zero_le _⟩) (fun u_13 H locs hw hP hD hS => ?_)
  obtain ⟨f9_15, hf_16, rfl⟩ := hw
  have hP : va_P (dC, dI) vwCl (wMix h cs (va_up (va_up I 120 (nI R)) 121 (nI M)) L A Q (va_up G 0 (va_up (va_up (va_up (va_up (G 0) 0 f9_3) 1 f9_7) 2 f9_11) 3 f9_15)) J) H := xP_sub hP [0, 1, 2, 3, 4, 7, 5, 6] rfl
  have hD : va_D A0 (wMix h cs (va_up (va_up I 120 (nI R)) 121 (nI M)) L A Q (va_up G 0 (va_up (va_up (va_up (va_up (G 0) 0 f9_3) 1 f9_7) 2 f9_11) 3 f9_15)) J) := hD.sub [0, 1, 2, 3, 4, 7, 5, 6] (by decide +kernel) rfl
  refine lv_iinc (v := nI 4) (lv' := [(3, .int (nI 4)), (0, .ref (h 101)), (1, .int (nI R)), (2, .int (nI M))]) hx hb dX3_reshape_27 hl (k := 0) rfl (by decide +kernel) (by decide) rfl (fun ls hl => ?_)
  refine lv_goto (tgt := 12) hx hb dX3_reshape_30 (by decide) ?_
  refine lv_iload_n hx hb dX3_reshape_12 rfl (lv_at hl 0 rfl) ?_
  refine lv_iconst (v := nI 5) hx hb dX3_reshape_13 (by decide) ?_
  refine lv_icmp_ge (tgt := 33) hx hb dX3_reshape_14 (by decide) (fun c9 => False.elim (by revert c9; decide +kernel)) (fun _ => ?_)
  refine lv_aload_n hx hb dX3_reshape_17 rfl (lv_at hl 1 rfl) ?_
  refine va_get (D := (dC, dI)) (ci := 3) (v := .ref (h 130)) (C := RX3) (T := TX3) (N := 6) hx hb hts hinX3 hown hK hP 0 rfl rfl 4 (by decide) (hts (.fieldLink RX3 26 "MixedWords$Mix" "cells" "[[I") (by decide +kernel)) (fun _ h9 => h9) rfl dX3_reshape_18 ?_
  refine lv_iload_n hx hb dX3_reshape_21 rfl (lv_at hl 0 rfl) ?_
  refine xa_aald (b := h 135) hx hb hK hP 1 3 rfl rfl rfl (by omega) (by decide) (if_pos (by omega)) dX3_reshape_22 ?_
  refine lv_iconst (v := nI 0) hx hb dX3_reshape_23 (by decide) ?_
  refine xj_v (wc := (wRw4 h cs (va_up (va_up I 120 (nI R)) 121 (nI M)) L A Q (va_up G 0 (va_up (va_up (va_up (va_up (G 0) 0 f9_3) 1 f9_7) 2 f9_11) 3 f9_15)) J)) (wr := [(h 101, .inr (3, [.int (nI R), .int (nI M), .int (I 122), .int (I 123), .ref (h 130), .ref (h 136)])), (h 130, .inl (cs 3, 5, .inr (.inr (.inr (.inr (fun i => if i < 5 then some (h (i + 131)) else none)))))), (h 131, .inl (cs 0, 4, .inl ((va_up (va_up (va_up (va_up (G 0) 0 f9_3) 1 f9_7) 2 f9_11) 3 f9_15) 0))), (h 132, .inl (cs 0, 4, .inl ((va_up (va_up (va_up (va_up (G 0) 0 f9_3) 1 f9_7) 2 f9_11) 3 f9_15) 1))), (h 133, .inl (cs 0, 4, .inl ((va_up (va_up (va_up (va_up (G 0) 0 f9_3) 1 f9_7) 2 f9_11) 3 f9_15) 2))), (h 134, .inl (cs 0, 4, .inl ((va_up (va_up (va_up (va_up (G 0) 0 f9_3) 1 f9_7) 2 f9_11) 3 f9_15) 3))), (h 136, .inl (cs 0, 5, .inl (A 136)))]) hP hD hS hA [6] [0, 1, 2, 3, 4, 5, 7] rfl rfl (by decide +kernel) (by decide +kernel) (va_runS (As := [.ref (h 135), .int (nI 0)]) (rest := []) ⟨hx, hb, hml, hown, hts⟩ (k_fill_row4 l dC dI h cs H.size (va_up (va_up I 120 (nI R)) 121 (nI M)) L A Q (va_up G 0 (va_up (va_up (va_up (va_up (G 0) 0 f9_3) 1 f9_7) 2 f9_11) 3 f9_15)) J (nI 0)) (va_cwS 2 hts gX3_reshape_J7_fill_53178 rfl rfl rfl (by decide +kernel) ⟨Nat.le_of_ble_eq_true rfl, Nat.le_of_ble_eq_true rfl⟩) (xpS (wc := (wRw4 h cs (va_up (va_up I 120 (nI R)) 121 (nI M)) L A Q (va_up G 0 (va_up (va_up (va_up (va_up (G 0) 0 f9_3) 1 f9_7) 2 f9_11) 3 f9_15)) J)) hP hD hK hN [6] rfl (by decide) _) rfl rfl hl.1 rfl (lv_room (Nat.le_of_ble_eq_true rfl)) dX3_reshape_24 ⟨Nat.zero_le _, Nat.zero_le _⟩) (fun u_17 H locs hw hP hD hS => ?_)
  obtain ⟨f9_19, hf_20, rfl⟩ := hw
  have hP : va_P (dC, dI) vwCl (wMix h cs (va_up (va_up I 120 (nI R)) 121 (nI M)) L A Q (va_up G 0 (va_up (va_up (va_up (va_up (va_up (G 0) 0 f9_3) 1 f9_7) 2 f9_11) 3 f9_15) 4 f9_19)) J) H := xP_sub hP [0, 1, 2, 3, 4, 5, 7, 6] rfl
  have hD : va_D A0 (wMix h cs (va_up (va_up I 120 (nI R)) 121 (nI M)) L A Q (va_up G 0 (va_up (va_up (va_up (va_up (va_up (G 0) 0 f9_3) 1 f9_7) 2 f9_11) 3 f9_15) 4 f9_19)) J) := hD.sub [0, 1, 2, 3, 4, 5, 7, 6] (by decide +kernel) rfl
  refine lv_iinc (v := nI 5) (lv' := [(3, .int (nI 5)), (0, .ref (h 101)), (1, .int (nI R)), (2, .int (nI M))]) hx hb dX3_reshape_27 hl (k := 0) rfl (by decide +kernel) (by decide) rfl (fun ls hl => ?_)
  refine lv_goto (tgt := 12) hx hb dX3_reshape_30 (by decide) ?_
  refine lv_iload_n hx hb dX3_reshape_12 rfl (lv_at hl 0 rfl) ?_
  refine lv_iconst (v := nI 5) hx hb dX3_reshape_13 (by decide) ?_
  refine lv_icmp_ge (tgt := 33) hx hb dX3_reshape_14 (by decide) (fun _ => ?_) (fun c9 => False.elim (by revert c9; decide +kernel))
  refine lv_aload_n hx hb dX3_reshape_33 rfl (lv_at hl 1 rfl) ?_
  refine va_get (D := (dC, dI)) (ci := 3) (v := .ref (h 136)) (C := RX3) (T := TX3) (N := 6) hx hb hts hinX3 hown hK hP 0 rfl rfl 5 (by decide) (hts (.fieldLink RX3 29 "MixedWords$Mix" "heard" "[I") (by decide +kernel)) (fun _ h9 => h9) rfl dX3_reshape_34 ?_
  refine lv_iconst (v := nI 0) hx hb dX3_reshape_37 (by decide) ?_
  refine xj_v (wc := (wHd h cs (va_up (va_up I 120 (nI R)) 121 (nI M)) L A Q (va_up G 0 (va_up (va_up (va_up (va_up (va_up (G 0) 0 f9_3) 1 f9_7) 2 f9_11) 3 f9_15) 4 f9_19)) J)) (wr := [(h 101, .inr (3, [.int (nI R), .int (nI M), .int (I 122), .int (I 123), .ref (h 130), .ref (h 136)])), (h 130, .inl (cs 3, 5, .inr (.inr (.inr (.inr (fun i => if i < 5 then some (h (i + 131)) else none)))))), (h 131, .inl (cs 0, 4, .inl ((va_up (va_up (va_up (va_up (va_up (G 0) 0 f9_3) 1 f9_7) 2 f9_11) 3 f9_15) 4 f9_19) 0))), (h 132, .inl (cs 0, 4, .inl ((va_up (va_up (va_up (va_up (va_up (G 0) 0 f9_3) 1 f9_7) 2 f9_11) 3 f9_15) 4 f9_19) 1))), (h 133, .inl (cs 0, 4, .inl ((va_up (va_up (va_up (va_up (va_up (G 0) 0 f9_3) 1 f9_7) 2 f9_11) 3 f9_15) 4 f9_19) 2))), (h 134, .inl (cs 0, 4, .inl ((va_up (va_up (va_up (va_up (va_up (G 0) 0 f9_3) 1 f9_7) 2 f9_11) 3 f9_15) 4 f9_19) 3))), (h 135, .inl (cs 0, 4, .inl ((va_up (va_up (va_up (va_up (va_up (G 0) 0 f9_3) 1 f9_7) 2 f9_11) 3 f9_15) 4 f9_19) 4)))]) hP hD hS hA [7] [0, 1, 2, 3, 4, 5, 6] rfl rfl (by decide +kernel) (by decide +kernel) (va_runS (As := [.ref (h 136), .int (nI 0)]) (rest := []) ⟨hx, hb, hml, hown, hts⟩ (k_fill_heard l dC dI h cs H.size (va_up (va_up I 120 (nI R)) 121 (nI M)) L A Q (va_up G 0 (va_up (va_up (va_up (va_up (va_up (G 0) 0 f9_3) 1 f9_7) 2 f9_11) 3 f9_15) 4 f9_19)) J (nI 0)) (va_cwS 2 hts gX3_reshape_J7_fill_53178 rfl rfl rfl (by decide +kernel) ⟨Nat.le_of_ble_eq_true rfl, Nat.le_of_ble_eq_true rfl⟩) (xpS (wc := (wHd h cs (va_up (va_up I 120 (nI R)) 121 (nI M)) L A Q (va_up G 0 (va_up (va_up (va_up (va_up (va_up (G 0) 0 f9_3) 1 f9_7) 2 f9_11) 3 f9_15) 4 f9_19)) J)) hP hD hK hN [7] rfl (by decide) _) rfl rfl hl.1 rfl (lv_room (Nat.le_of_ble_eq_true rfl)) dX3_reshape_38 ⟨Nat.zero_le _, Nat.zero_le _⟩) (fun u_21 H locs hw hP hD hS => ?_)
  obtain ⟨a136_23, hf_24, rfl⟩ := hw
  have hP : va_P (dC, dI) vwCl (wMix h cs (va_up (va_up I 120 (nI R)) 121 (nI M)) L (va_up A 136 a136_23) Q (va_up G 0 (va_up (va_up (va_up (va_up (va_up (G 0) 0 f9_3) 1 f9_7) 2 f9_11) 3 f9_15) 4 f9_19)) J) H := hP
  have hD : va_D A0 (wMix h cs (va_up (va_up I 120 (nI R)) 121 (nI M)) L (va_up A 136 a136_23) Q (va_up G 0 (va_up (va_up (va_up (va_up (va_up (G 0) 0 f9_3) 1 f9_7) 2 f9_11) 3 f9_15) 4 f9_19)) J) := hD
  refine lv_aload_n hx hb dX3_reshape_41 rfl (lv_at hl 1 rfl) ?_
  refine lv_dup hx hb dX3_reshape_42 rfl ?_
  refine va_get (D := (dC, dI)) (ci := 3) (v := .int (I 123)) (C := RX3) (T := TX3) (N := 6) hx hb hts hinX3 hown hK hP 0 rfl rfl 3 (by decide) (hts (.fieldLink RX3 21 "MixedWords$Mix" "stamp" "I") (by decide +kernel)) (fun _ h9 => h9) rfl dX3_reshape_43 ?_
  refine xt_i (y := nI sp9) (hst) ?_
  refine lv_iconst (v := nI 1) hx hb dX3_reshape_46 (by decide) ?_
  refine lv_iadd hx hb dX3_reshape_47 ?_
  refine xt_i (y := nI (sp9 + 1)) (nI_add _ _) ?_
  refine va_put (D := (dC, dI)) (ci := 3) (v := .int (nI (sp9 + 1))) (ty := .int) (C := RX3) (T := TX3) (N := 6) hx hb hts hinX3 tyX3 tyX3_ok nmX3 hown hK hP hD hS 0 rfl rfl 3 (by decide) (hts (.fieldLink RX3 21 "MixedWords$Mix" "stamp" "I") (by decide +kernel)) (fun _ h9 => h9) rfl (by decide +kernel) rfl rfl (Nat.le_of_ble_eq_true rfl) dX3_reshape_48 (fun H locs hP hD hS => ?_)
  have hP : va_P (dC, dI) vwCl (wMix h cs (va_up (va_up (va_up I 120 (nI R)) 121 (nI M)) 123 (nI (sp9 + 1))) L (va_up A 136 a136_23) Q (va_up G 0 (va_up (va_up (va_up (va_up (va_up (G 0) 0 f9_3) 1 f9_7) 2 f9_11) 3 f9_15) 4 f9_19)) J) H := hP
  have hD : va_D A0 (wMix h cs (va_up (va_up (va_up I 120 (nI R)) 121 (nI M)) 123 (nI (sp9 + 1))) L (va_up A 136 a136_23) Q (va_up G 0 (va_up (va_up (va_up (va_up (va_up (G 0) 0 f9_3) 1 f9_7) 2 f9_11) 3 f9_15) 4 f9_19)) J) := hD
  exact xr_v hx hb hr hlocks hK hS dX3_reshape_51 ((va_up (va_up (va_up I 120 (nI R)) 121 (nI M)) 123 (nI (sp9 + 1))), L, (va_up A 136 a136_23), Q, (va_up G 0 (va_up (va_up (va_up (va_up (va_up (G 0) 0 f9_3) 1 f9_7) 2 f9_11) 3 f9_15) 4 f9_19)), J) ⟨(nI R), (nI M), (nI (sp9 + 1)), a136_23, (va_up (va_up (va_up (va_up (va_up (G 0) 0 f9_3) 1 f9_7) 2 f9_11) 3 f9_15) 4 f9_19), ⟨by
        intro q t hq ht
        rcases (show q = 0 ∨ q = 1 ∨ q = 2 ∨ q = 3 ∨ q = 4 by omega) with rfl | rfl | rfl | rfl | rfl
        · exact hf_4 t ht
        · exact hf_8 t ht
        · exact hf_12 t ht
        · exact hf_16 t ht
        · exact hf_20 t ht,
        hf_24, rfl, rfl, rfl⟩, rfl⟩ hP hD
theorem bdJ7_fill_d0a16_0 : (decode cJ7_fill_d0a16 0 = .ok (.iconst 0, 1)) ∧ (decode cJ7_fill_d0a16 1 = .ok (.istore_n 3, 1)) ∧ (decode cJ7_fill_d0a16 2 = .ok (.aload_n 0, 1)) ∧ (decode cJ7_fill_d0a16 3 = .ok (.arraylength, 1)) ∧ (decode cJ7_fill_d0a16 4 = .ok (.istore 4, 2)) ∧ (decode cJ7_fill_d0a16 6 = .ok (.iload_n 3, 1)) ∧ (decode cJ7_fill_d0a16 7 = .ok (.iload 4, 2)) ∧ (decode cJ7_fill_d0a16 9 = .ok (.if_icmp .ge 13, 3)) ∧ (decode cJ7_fill_d0a16 12 = .ok (.aload_n 0, 1)) ∧ (decode cJ7_fill_d0a16 13 = .ok (.iload_n 3, 1)) ∧ (decode cJ7_fill_d0a16 14 = .ok (.lload_n 1, 1)) ∧ (decode cJ7_fill_d0a16 15 = .ok (.lastore, 1)) ∧ (decode cJ7_fill_d0a16 16 = .ok (.iinc 3 1, 3)) ∧ (decode cJ7_fill_d0a16 19 = .ok (.goto (-13), 3)) ∧ (decode cJ7_fill_d0a16 22 = .ok (.return_, 1)) := by decide +kernel
theorem dJ7_fill_d0a16_0 : decode cJ7_fill_d0a16 0 = .ok (.iconst 0, 1) := bdJ7_fill_d0a16_0.1
theorem dJ7_fill_d0a16_1 : decode cJ7_fill_d0a16 1 = .ok (.istore_n 3, 1) := bdJ7_fill_d0a16_0.2.1
theorem dJ7_fill_d0a16_2 : decode cJ7_fill_d0a16 2 = .ok (.aload_n 0, 1) := bdJ7_fill_d0a16_0.2.2.1
theorem dJ7_fill_d0a16_3 : decode cJ7_fill_d0a16 3 = .ok (.arraylength, 1) := bdJ7_fill_d0a16_0.2.2.2.1
theorem dJ7_fill_d0a16_4 : decode cJ7_fill_d0a16 4 = .ok (.istore 4, 2) := bdJ7_fill_d0a16_0.2.2.2.2.1
theorem dJ7_fill_d0a16_6 : decode cJ7_fill_d0a16 6 = .ok (.iload_n 3, 1) := bdJ7_fill_d0a16_0.2.2.2.2.2.1
theorem dJ7_fill_d0a16_7 : decode cJ7_fill_d0a16 7 = .ok (.iload 4, 2) := bdJ7_fill_d0a16_0.2.2.2.2.2.2.1
theorem dJ7_fill_d0a16_9 : decode cJ7_fill_d0a16 9 = .ok (.if_icmp .ge 13, 3) := bdJ7_fill_d0a16_0.2.2.2.2.2.2.2.1
theorem dJ7_fill_d0a16_12 : decode cJ7_fill_d0a16 12 = .ok (.aload_n 0, 1) := bdJ7_fill_d0a16_0.2.2.2.2.2.2.2.2.1
theorem dJ7_fill_d0a16_13 : decode cJ7_fill_d0a16 13 = .ok (.iload_n 3, 1) := bdJ7_fill_d0a16_0.2.2.2.2.2.2.2.2.2.1
theorem dJ7_fill_d0a16_14 : decode cJ7_fill_d0a16 14 = .ok (.lload_n 1, 1) := bdJ7_fill_d0a16_0.2.2.2.2.2.2.2.2.2.2.1
theorem dJ7_fill_d0a16_15 : decode cJ7_fill_d0a16 15 = .ok (.lastore, 1) := bdJ7_fill_d0a16_0.2.2.2.2.2.2.2.2.2.2.2.1
theorem dJ7_fill_d0a16_16 : decode cJ7_fill_d0a16 16 = .ok (.iinc 3 1, 3) := bdJ7_fill_d0a16_0.2.2.2.2.2.2.2.2.2.2.2.2.1
theorem dJ7_fill_d0a16_19 : decode cJ7_fill_d0a16 19 = .ok (.goto (-13), 3) := bdJ7_fill_d0a16_0.2.2.2.2.2.2.2.2.2.2.2.2.2.1
theorem dJ7_fill_d0a16_22 : decode cJ7_fill_d0a16 22 = .ok (.return_, 1) := bdJ7_fill_d0a16_0.2.2.2.2.2.2.2.2.2.2.2.2.2.2
set_option maxHeartbeats 4000000 in
set_option maxRecDepth 100000 in
theorem k_fill_items (l : Launch) (dC : Nat → ClassId) (dI : Nat → Nat → Nat) (h : Nat → Nat) (cs : Nat → ClassId) (sz : Nat) (I : Nat → Int32) (L : Nat → Int64) (A : Nat → Nat → Int32) (Q : Nat → Nat → Int64) (G : Nat → Nat → Nat → Int32) (J : Nat → Nat → Nat → Int64) (v : Int64) : Met l yJ7_fill_d0a16 wsJ7_fill_d0a16 ({ frames := 0, cells := 0, slots := 0, locals := 0 }) (va_Pc [.ref (h 228), .long v] (xPre (dC, dI) (wIt h cs I L A Q G J) (tysA cs) sz)) (va_Qv (fun (u : CS) => ∃ q228 : Nat → Int64, (∀ t : Nat, t < 25 → q228 t = v) ∧ u = (I, L, A, (va_up Q 228 q228), G, J)) (xB (dC, dI) (tysA cs) (va_A (wIt h cs I L A Q G J) sz) (fun u : CS => wIt h cs u.1 u.2.1 u.2.2.1 u.2.2.2.1 u.2.2.2.2.1 u.2.2.2.2.2)) (va_A (wIt h cs I L A Q G J) sz)) 0 0 (va_A (wIt h cs I L A Q G J) sz) := by
  refine Met.ofW (cc := cJ7_fill_d0a16) (maxL := 5) (ret := none) (by decide) rfl ?_
  intro p e s m args below meth c s₁ B hml hv
  obtain ⟨rfl, hsz, hP, hK, hD0, hN⟩ := hv
  have hx := B.exec
  have hb := B.bytes
  have hr := B.returns
  have hts := atoms_spec (ws := wsJ7_fill_d0a16) B.pre
  have hown : s.vm.findClass RJ7 = some m.cls := findClass_of_methodNamed B.named
  have hlocks := B.notSynchronized
  subst hsz
  have hD := hD0.self (sz := s.heap.size)
  generalize hAe : va_A (wIt h cs I L A Q G J) s.heap.size = A0 at hD ⊢
  have hA : ∀ q : Nat, s.heap.size ≤ q → A0 q := fun q h => by rw [← hAe]; exact Or.inr h
  have hl := lv_entry ([.ref (h 228), .long v]) (n := 5) (Nat.le_of_ble_eq_true rfl)
  rw [lg_entry_eq]
  generalize (lg_sl ([.ref (h 228), .long v]) ++ List.replicate (5 - (lg_sl ([.ref (h 228), .long v])).length) Slot.unset).toArray = ls at hl ⊢
  have hl : lv_has ls 5 [(0, .ref (h 228)), (1, .long v)] := hl
  generalize hH : s.heap = H at hP ⊢
  have hS : va_S A0 s.heap H [] := by rw [← hH]; exact va_S.rf
  refine lv_iconst (v := nI 0) hx hb dJ7_fill_d0a16_0 (by decide) ?_
  refine lv_istore_n (lv' := [(3, .int (nI 0)), (0, .ref (h 228)), (1, .long v)]) hx hb dJ7_fill_d0a16_1 rfl hl (by decide) rfl (fun ls hl => ?_)
  refine lv_aload_n hx hb dJ7_fill_d0a16_2 rfl (lv_at hl 1 rfl) ?_
  refine xa_alen hx hb hK hP 0 1 rfl rfl (n := 25) rfl dJ7_fill_d0a16_3 ?_
  refine lv_istore (lv' := [(4, .int (nI 25)), (3, .int (nI 0)), (0, .ref (h 228)), (1, .long v)]) hx hb dJ7_fill_d0a16_4 hl (by decide) rfl (fun ls hl => ?_)
  have cut_6 : ∀ (nf : Nat) (n : Nat) (ff : Nat → Int64), (25 - n) < nf → (n ≤ 25) → (∀ t : Nat, t < n → ff t = v) → ∀ (H : Heap) (locs : List Loc) (ls : Array Slot), va_P (dC, dI) vwCl (wIt h cs I L A (va_up Q 228 ff) G J) H → va_D A0 (wIt h cs I L A (va_up Q 228 ff) G J) → va_S A0 s.heap H locs → lv_has ls 5 [(0, .ref (h 228)), (1, .long v), (3, .int (nI n)), (4, .int (nI 25))] → W p l e (headSpec wsJ7_fill_d0a16 ({ frames := 0, cells := 0, slots := 0, locals := 0 })).room s m ([.ref (h 228), .long v] : List Value).toArray below meth c H locs 0 0 (MQ below (va_Qv (fun (u : CS) => ∃ q228 : Nat → Int64, (∀ t : Nat, t < 25 → q228 t = v) ∧ u = (I, L, A, (va_up Q 228 q228), G, J)) (xB (dC, dI) (tysA cs) A0 (fun u : CS => wIt h cs u.1 u.2.1 u.2.2.1 u.2.2.2.1 u.2.2.2.2.1 u.2.2.2.2.2)) A0) ([.ref (h 228), .long v] : List Value).toArray s 0 0 A0) (F0 m 6 ls []) := by
    intro nf
    induction nf with
    | zero => intro n ff hm; exact absurd hm (Nat.not_lt_zero _)
    | succ nf ih_6 =>
      intro n ff hm_6 hn6 ha6 H locs ls hP hD hS hl
      refine lv_iload_n hx hb dJ7_fill_d0a16_6 rfl (lv_at hl 2 rfl) ?_
      refine lv_iload hx hb dJ7_fill_d0a16_7 (lv_at hl 3 rfl) ?_
      refine xn_ge (tgt := 22) hx hb dJ7_fill_d0a16_9 (by decide) (by omega) (by omega) (fun c_9_0 => ?_) (fun c_9_0 => ?_)
      · skip
        exact xr_v hx hb hr hlocks hK hS dJ7_fill_d0a16_22 (I, L, A, (va_up Q 228 ff), G, J) ⟨ff, (fun t ht => ha6 t (by omega)), rfl⟩ hP hD
      · skip
        refine lv_aload_n hx hb dJ7_fill_d0a16_12 rfl (lv_at hl 0 rfl) ?_
        refine lv_iload_n hx hb dJ7_fill_d0a16_13 rfl (lv_at hl 2 rfl) ?_
        refine lv_lload_n hx hb dJ7_fill_d0a16_14 rfl (lv_at hl 1 rfl) ?_
        refine xa_last hx hb hK hP hD hS 0 1 rfl rfl (by omega) (by decide) dJ7_fill_d0a16_15 (fun H locs hP hD hS => ?_)
        have hP : va_P (dC, dI) vwCl (wIt h cs I L A (va_up Q 228 (vp_updL ff n v)) G J) H := hP
        have hD : va_D A0 (wIt h cs I L A (va_up Q 228 (vp_updL ff n v)) G J) := hD
        refine lv_iinc (v := nI (n + 1)) (lv' := [(3, .int (nI (n + 1))), (0, .ref (h 228)), (1, .long v), (4, .int (nI 25))]) hx hb dJ7_fill_d0a16_16 hl (k := 2) rfl (nI_1 _) (by decide) rfl (fun ls hl => ?_)
        refine lv_goto (tgt := 6) hx hb dJ7_fill_d0a16_19 (by decide) ?_
        exact ih_6 (n + 1) (vp_updL ff n v) (by omega) (by first | assumption | omega) (by first | exact fun t ht => absurd ht (Nat.not_lt_zero t) | exact fl1 ha6) _ _ _ hP hD hS (lv_sub hl [1, 2, 0, 3] rfl)
  exact cut_6 _ 0 (Q 228) (Nat.lt_succ_self _) (by first | assumption | omega) (by first | exact fun t ht => absurd ht (Nat.not_lt_zero t) | exact fl1 ha6) _ _ _ hP hD hS (lv_sub hl [2, 3, 1, 0] rfl)
set_option maxRecDepth 20000 in
theorem ggX5_renew_J7_fill_d0a16 : GoodIn wsX5_renew wsJ7_fill_d0a16 := goodIn_r _ [7] rfl (by decide +kernel)
set_option maxRecDepth 20000 in
theorem gX5_renew_J7_fill_d0a16 : GoodIn wsX5_renew (va_wsS RX5 22 yJ7_fill_d0a16 wsJ7_fill_d0a16) := goodIn_app (goodIn_of _ (by decide +kernel)) ggX5_renew_J7_fill_d0a16
theorem bdX5_renew_0 : (decode cX5_renew 0 = .ok (.aload_n 0, 1)) ∧ (decode cX5_renew 1 = .ok (.iload_n 1, 1)) ∧ (decode cX5_renew 2 = .ok (.putfield 11, 3)) ∧ (decode cX5_renew 5 = .ok (.aload_n 0, 1)) ∧ (decode cX5_renew 6 = .ok (.iload_n 2, 1)) ∧ (decode cX5_renew 7 = .ok (.putfield 15, 3)) ∧ (decode cX5_renew 10 = .ok (.aload_n 0, 1)) ∧ (decode cX5_renew 11 = .ok (.getfield 18, 3)) ∧ (decode cX5_renew 14 = .ok (.lconst 0, 1)) ∧ (decode cX5_renew 15 = .ok (.invokestatic 22, 3)) ∧ (decode cX5_renew 18 = .ok (.return_, 1)) := by decide +kernel
theorem dX5_renew_0 : decode cX5_renew 0 = .ok (.aload_n 0, 1) := bdX5_renew_0.1
theorem dX5_renew_1 : decode cX5_renew 1 = .ok (.iload_n 1, 1) := bdX5_renew_0.2.1
theorem dX5_renew_2 : decode cX5_renew 2 = .ok (.putfield 11, 3) := bdX5_renew_0.2.2.1
theorem dX5_renew_5 : decode cX5_renew 5 = .ok (.aload_n 0, 1) := bdX5_renew_0.2.2.2.1
theorem dX5_renew_6 : decode cX5_renew 6 = .ok (.iload_n 2, 1) := bdX5_renew_0.2.2.2.2.1
theorem dX5_renew_7 : decode cX5_renew 7 = .ok (.putfield 15, 3) := bdX5_renew_0.2.2.2.2.2.1
theorem dX5_renew_10 : decode cX5_renew 10 = .ok (.aload_n 0, 1) := bdX5_renew_0.2.2.2.2.2.2.1
theorem dX5_renew_11 : decode cX5_renew 11 = .ok (.getfield 18, 3) := bdX5_renew_0.2.2.2.2.2.2.2.1
theorem dX5_renew_14 : decode cX5_renew 14 = .ok (.lconst 0, 1) := bdX5_renew_0.2.2.2.2.2.2.2.2.1
theorem dX5_renew_15 : decode cX5_renew 15 = .ok (.invokestatic 22, 3) := bdX5_renew_0.2.2.2.2.2.2.2.2.2.1
theorem dX5_renew_18 : decode cX5_renew 18 = .ok (.return_, 1) := bdX5_renew_0.2.2.2.2.2.2.2.2.2.2
set_option maxHeartbeats 4000000 in
set_option maxRecDepth 100000 in
theorem k_X5_renew (l : Launch) (dC : Nat → ClassId) (dI : Nat → Nat → Nat) (h : Nat → Nat) (cs : Nat → ClassId) (sz : Nat) (I : Nat → Int32) (L : Nat → Int64) (A : Nat → Nat → Int32) (Q : Nat → Nat → Int64) (G : Nat → Nat → Nat → Int32) (J : Nat → Nat → Nat → Int64) (y z : Int32) : Met l yX5_renew wsX5_renew ({ frames := 1, cells := 0, slots := 0, locals := 24 }) (va_Pc [.ref (h 110), .int y, .int z] (xPre (dC, dI) (wSheet h cs I L A Q G J) (tysA cs) sz)) (va_Qv (fun (u : CS) => ∃ i220 : Int32, ∃ i224 : Int32, ∃ q228 : Nat → Int64, ((∀ t : Nat, t < 25 → q228 t = 0) ∧ i220 = y ∧ i224 = z) ∧ u = ((va_up (va_up I 220 i220) 224 i224), L, A, (va_up Q 228 q228), G, J)) (xB (dC, dI) (tysA cs) (va_A (wSheet h cs I L A Q G J) sz) (fun u : CS => wSheet h cs u.1 u.2.1 u.2.2.1 u.2.2.2.1 u.2.2.2.2.1 u.2.2.2.2.2)) (va_A (wSheet h cs I L A Q G J) sz)) 0 0 (va_A (wSheet h cs I L A Q G J) sz) := by
  refine Met.ofW (cc := cX5_renew) (maxL := 3) (ret := none) (by decide) rfl ?_
  intro p e s m args below meth c s₁ B hml hv
  obtain ⟨rfl, hsz, hP, hK, hD0, hN⟩ := hv
  have hx := B.exec
  have hb := B.bytes
  have hr := B.returns
  have hts := atoms_spec (ws := wsX5_renew) B.pre
  have hown : s.vm.findClass RX5 = some m.cls := findClass_of_methodNamed B.named
  have hlocks := B.notSynchronized
  subst hsz
  have hD := hD0.self (sz := s.heap.size)
  generalize hAe : va_A (wSheet h cs I L A Q G J) s.heap.size = A0 at hD ⊢
  have hA : ∀ q : Nat, s.heap.size ≤ q → A0 q := fun q h => by rw [← hAe]; exact Or.inr h
  have hl := lv_entry ([.ref (h 110), .int y, .int z]) (n := 3) (Nat.le_of_ble_eq_true rfl)
  rw [lg_entry_eq]
  generalize (lg_sl ([.ref (h 110), .int y, .int z]) ++ List.replicate (3 - (lg_sl ([.ref (h 110), .int y, .int z])).length) Slot.unset).toArray = ls at hl ⊢
  have hl : lv_has ls 3 [(0, .ref (h 110)), (1, .int y), (2, .int z)] := hl
  generalize hH : s.heap = H at hP ⊢
  have hS : va_S A0 s.heap H [] := by rw [← hH]; exact va_S.rf
  have hinX5 : ∀ w ∈ wsX50, w ∈ wsX5_renew := by decide +kernel
  refine lv_aload_n hx hb dX5_renew_0 rfl (lv_at hl 0 rfl) ?_
  refine lv_iload_n hx hb dX5_renew_1 rfl (lv_at hl 1 rfl) ?_
  refine va_put (D := (dC, dI)) (ci := 5) (v := .int y) (ty := .int) (C := RX5) (T := TX5) (N := 3) hx hb hts hinX5 tyX5 tyX5_ok nmX5 hown hK hP hD hS 0 rfl rfl 0 (by decide) (hts (.fieldLink RX5 11 "MixedWords$Sheet" "lane" "I") (by decide +kernel)) (fun _ h9 => h9) rfl (by decide +kernel) rfl rfl (Nat.le_of_ble_eq_true rfl) dX5_renew_2 (fun H locs hP hD hS => ?_)
  have hP : va_P (dC, dI) vwCl (wSheet h cs (va_up I 220 y) L A Q G J) H := hP
  have hD : va_D A0 (wSheet h cs (va_up I 220 y) L A Q G J) := hD
  refine lv_aload_n hx hb dX5_renew_5 rfl (lv_at hl 0 rfl) ?_
  refine lv_iload_n hx hb dX5_renew_6 rfl (lv_at hl 2 rfl) ?_
  refine va_put (D := (dC, dI)) (ci := 5) (v := .int z) (ty := .int) (C := RX5) (T := TX5) (N := 3) hx hb hts hinX5 tyX5 tyX5_ok nmX5 hown hK hP hD hS 0 rfl rfl 1 (by decide) (hts (.fieldLink RX5 15 "MixedWords$Sheet" "length" "I") (by decide +kernel)) (fun _ h9 => h9) rfl (by decide +kernel) rfl rfl (Nat.le_of_ble_eq_true rfl) dX5_renew_7 (fun H locs hP hD hS => ?_)
  have hP : va_P (dC, dI) vwCl (wSheet h cs (va_up (va_up I 220 y) 224 z) L A Q G J) H := hP
  have hD : va_D A0 (wSheet h cs (va_up (va_up I 220 y) 224 z) L A Q G J) := hD
  refine lv_aload_n hx hb dX5_renew_10 rfl (lv_at hl 0 rfl) ?_
  refine va_get (D := (dC, dI)) (ci := 5) (v := .ref (h 228)) (C := RX5) (T := TX5) (N := 3) hx hb hts hinX5 hown hK hP 0 rfl rfl 2 (by decide) (hts (.fieldLink RX5 18 "MixedWords$Sheet" "items" "[J") (by decide +kernel)) (fun _ h9 => h9) rfl dX5_renew_11 ?_
  refine lv_lconst (v := 0) hx hb dX5_renew_14 rfl ?_
  refine xj_v (wc := (wIt h cs (va_up (va_up I 220 y) 224 z) L A Q G J)) (wr := [(h 110, .inr (5, [.int (y), .int (z), .ref (h 228)]))]) hP hD hS hA [1] [0] rfl rfl (by decide +kernel) (by decide +kernel) (va_runS (As := [.ref (h 228), .long (0 : Int64)]) (rest := []) ⟨hx, hb, hml, hown, hts⟩ (k_fill_items l dC dI h cs H.size (va_up (va_up I 220 y) 224 z) L A Q G J (0 : Int64)) (va_cwS 2 hts gX5_renew_J7_fill_d0a16 rfl rfl rfl (by decide +kernel) ⟨Nat.le_of_ble_eq_true rfl, Nat.le_of_ble_eq_true rfl⟩) (xpS (wc := (wIt h cs (va_up (va_up I 220 y) 224 z) L A Q G J)) hP hD hK hN [1] rfl (by decide) _) rfl rfl hl.1 rfl (lv_room (Nat.le_of_ble_eq_true rfl)) dX5_renew_15 ⟨Nat.zero_le _, Nat.zero_le _⟩) (fun u_1 H locs hw hP hD hS => ?_)
  obtain ⟨q228_3, hf_4, rfl⟩ := hw
  have hP : va_P (dC, dI) vwCl (wSheet h cs (va_up (va_up I 220 y) 224 z) L A (va_up Q 228 q228_3) G J) H := hP
  have hD : va_D A0 (wSheet h cs (va_up (va_up I 220 y) 224 z) L A (va_up Q 228 q228_3) G J) := hD
  exact xr_v hx hb hr hlocks hK hS dX5_renew_18 ((va_up (va_up I 220 y) 224 z), L, A, (va_up Q 228 q228_3), G, J) ⟨y, z, q228_3, ⟨hf_4, rfl, rfl⟩, rfl⟩ hP hD
