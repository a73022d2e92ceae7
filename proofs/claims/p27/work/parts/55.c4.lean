
theorem and255 (y : Int64) : ∃ n : Nat, n ≤ 255 ∧ (y &&& 255).toInt = n := by
  refine ⟨(y &&& 255).toBitVec.toNat, ?_, ?_⟩
  · rw [Int64.toBitVec_and, BitVec.toNat_and]
    exact Nat.and_le_right
  · have h : (y &&& 255).toBitVec.toNat ≤ 255 := by
      rw [Int64.toBitVec_and, BitVec.toNat_and]
      exact Nat.and_le_right
    exact BitVec.toInt_eq_toNat_of_lt (by omega)
theorem byte_int (w : Int64) (k : Nat) : (byteL w k).toInt32.toInt = (byteL w k).toInt := by
  obtain ⟨n, hn, e⟩ := and255 (w >>> ((nI (8 * k)).toInt64 &&& 63))
  have e2 : (byteL w k).toInt = n := e
  rw [Int64.toInt_toInt32, e2]
  exact Int.bmod_eq_of_le (by omega) (by omega)
theorem okB_iff (w : Int64) (k : Nat) : okB w k ↔ (¬ (byteL w k).toInt32 < nI 32 ∧ (byteL w k).toInt32 ≤ nI 126) := by
  unfold okB
  rw [Int64.le_iff_toInt_le, Int64.le_iff_toInt_le, Int32.lt_iff_toInt_lt, Int32.le_iff_toInt_le, byte_int]
  show (32 ≤ _ ∧ _ ≤ 126) ↔ (¬ _ < 32 ∧ _ ≤ 126)
  omega

def byteC (w : Int64) (k : Nat) : Int32 := vp_nar .byte ((byteL w k).toInt32.toInt8.toInt32)
theorem tape_c {f g : Nat → Int32} {T n j t : Nat} {w : Int64} (ht : t = T + (n - j)) (hj0 : 0 < j) (hj : j ≤ n) (h1 : ∀ q : Nat, q < T → g q = f q) (h2 : ∀ i : Nat, j ≤ i → i < n → g (T + (n - 1 - i)) = byteC w i) :
    (∀ q : Nat, q < T → upd g t (byteC w (j - 1)) q = f q) ∧ ∀ i : Nat, j - 1 ≤ i → i < n → upd g t (byteC w (j - 1)) (T + (n - 1 - i)) = byteC w i := by
  refine ⟨fun q hq => ?_, fun i hi hn => ?_⟩
  · rw [pk_un (by omega)]
    exact h1 q hq
  · by_cases e : i = j - 1
    · subst e
      rw [show T + (n - 1 - (j - 1)) = t by omega, pk_us]
    · rw [pk_un (by omega)]
      exact h2 i (by omega) hn

theorem ix_eq {w a d : Nat} (hw : w ≤ 256) (ha : a = 2 ∨ a = 4) (hd : d ≤ 3) : (nI w >>> (nI (a / 2 * d) &&& 31)) &&& nI (a - 1) = nI (w / a ^ d % a) := by
  have hv : ∀ k : Nat, w / 2 ^ k < 2 ^ 32 := fun k => Nat.lt_of_le_of_lt (Nat.div_le_self _ _) (by omega)
  have : d = 0 ∨ d = 1 ∨ d = 2 ∨ d = 3 := by omega
  rcases ha with rfl | rfl <;> rcases this with rfl | rfl | rfl | rfl
  · rw [pk_shrN (by omega) _ 0 (by decide), pk_andN (hv _) 1 (by decide)]
  · rw [pk_shrN (by omega) _ 1 (by decide), pk_andN (hv _) 1 (by decide)]
  · rw [pk_shrN (by omega) _ 2 (by decide), pk_andN (hv _) 1 (by decide)]
  · rw [pk_shrN (by omega) _ 3 (by decide), pk_andN (hv _) 1 (by decide)]
  · rw [pk_shrN (by omega) _ 0 (by decide), pk_andN (hv _) 2 (by decide)]
  · rw [pk_shrN (by omega) _ 2 (by decide), pk_andN (hv _) 2 (by decide)]
  · rw [pk_shrN (by omega) _ 4 (by decide), pk_andN (hv _) 2 (by decide)]
  · rw [pk_shrN (by omega) _ 6 (by decide), pk_andN (hv _) 2 (by decide)]
def leftC (he : Nat → Int32) (g : Nat → Nat → Int32) (a M w r : Nat) : Nat → Int32
  | 0 => he r
  | k + 1 => leftC he g a M w r k - g r k * lettr a (w / a ^ (M - 1 - k))
def offC (he : Nat → Int32) (g : Nat → Nat → Int32) (a M w : Nat) : Nat → Int32
  | 0 => nI 0
  | r + 1 => offC he g a M w r + leftC he g a M w r M * leftC he g a M w r M
theorem bdX7_byteOf_0 : (decode cX7_byteOf 0 = .ok (.lload_n 0, 1)) ∧ (decode cX7_byteOf 1 = .ok (.bipush 8, 2)) ∧ (decode cX7_byteOf 3 = .ok (.iload_n 2, 1)) ∧ (decode cX7_byteOf 4 = .ok (.imul, 1)) ∧ (decode cX7_byteOf 5 = .ok (.lshr, 1)) ∧ (decode cX7_byteOf 6 = .ok (.ldc2_w 21, 3)) ∧ (decode cX7_byteOf 9 = .ok (.land, 1)) ∧ (decode cX7_byteOf 10 = .ok (.l2i, 1)) ∧ (decode cX7_byteOf 11 = .ok (.ireturn, 1)) := by decide +kernel
theorem dX7_byteOf_0 : decode cX7_byteOf 0 = .ok (.lload_n 0, 1) := bdX7_byteOf_0.1
theorem dX7_byteOf_1 : decode cX7_byteOf 1 = .ok (.bipush 8, 2) := bdX7_byteOf_0.2.1
theorem dX7_byteOf_3 : decode cX7_byteOf 3 = .ok (.iload_n 2, 1) := bdX7_byteOf_0.2.2.1
theorem dX7_byteOf_4 : decode cX7_byteOf 4 = .ok (.imul, 1) := bdX7_byteOf_0.2.2.2.1
theorem dX7_byteOf_5 : decode cX7_byteOf 5 = .ok (.lshr, 1) := bdX7_byteOf_0.2.2.2.2.1
theorem dX7_byteOf_6 : decode cX7_byteOf 6 = .ok (.ldc2_w 21, 3) := bdX7_byteOf_0.2.2.2.2.2.1
theorem dX7_byteOf_9 : decode cX7_byteOf 9 = .ok (.land, 1) := bdX7_byteOf_0.2.2.2.2.2.2.1
theorem dX7_byteOf_10 : decode cX7_byteOf 10 = .ok (.l2i, 1) := bdX7_byteOf_0.2.2.2.2.2.2.2.1
theorem dX7_byteOf_11 : decode cX7_byteOf 11 = .ok (.ireturn, 1) := bdX7_byteOf_0.2.2.2.2.2.2.2.2
set_option maxHeartbeats 4000000 in
set_option maxRecDepth 100000 in
theorem k_X7_byteOf (l : Launch) (dC : Nat → ClassId) (dI : Nat → Nat → Nat) (h : Nat → Nat) (cs : Nat → ClassId) (sz : Nat) (I : Nat → Int32) (L : Nat → Int64) (A : Nat → Nat → Int32) (Q : Nat → Nat → Int64) (G : Nat → Nat → Nat → Int32) (J : Nat → Nat → Nat → Int64) (w : Int64) (k : Nat) : Met l yX7_byteOf wsX7_byteOf ({ frames := 0, cells := 0, slots := 0, locals := 0 }) (va_Pc [.long w, .int (nI k)] (xPre (dC, dI) ([] : va_W) (tysA cs) sz)) (va_Qi (fun (r : Int32) (u : CS) => (r = (byteL w k).toInt32) ∧ u = (I, L, A, Q, G, J)) (xB (dC, dI) (tysA cs) (va_A ([] : va_W) sz) (fun _ : CS => ([] : va_W))) (va_A ([] : va_W) sz)) 0 0 (va_A ([] : va_W) sz) := by
  refine Met.ofW (cc := cX7_byteOf) (maxL := 3) (ret := (some .int)) (by decide) rfl ?_
  intro p e s m args below meth c s₁ B hml hv
  obtain ⟨rfl, hsz, hP, hK, hD0, hN⟩ := hv
  have hx := B.exec
  have hb := B.bytes
  have hr := B.returns
  have hts := atoms_spec (ws := wsX7_byteOf) B.pre
  have hown : s.vm.findClass RX7 = some m.cls := findClass_of_methodNamed B.named
  have hlocks := B.notSynchronized
  subst hsz
  have hD := hD0.self (sz := s.heap.size)
  generalize hAe : va_A ([] : va_W) s.heap.size = A0 at hD ⊢
  have hA : ∀ q : Nat, s.heap.size ≤ q → A0 q := fun q h => by rw [← hAe]; exact Or.inr h
  have hl := lv_entry ([.long w, .int (nI k)]) (n := 3) (Nat.le_of_ble_eq_true rfl)
  rw [lg_entry_eq]
  generalize (lg_sl ([.long w, .int (nI k)]) ++ List.replicate (3 - (lg_sl ([.long w, .int (nI k)])).length) Slot.unset).toArray = ls at hl ⊢
  have hl : lv_has ls 3 [(0, .long w), (2, .int (nI k))] := hl
  generalize hH : s.heap = H at hP ⊢
  have hS : va_S A0 s.heap H [] := by rw [← hH]; exact va_S.rf
  refine lv_lload_n hx hb dX7_byteOf_0 rfl (lv_at hl 0 rfl) ?_
  refine lv_bipush (v := nI 8) hx hb dX7_byteOf_1 (by decide) ?_
  refine lv_iload_n hx hb dX7_byteOf_3 rfl (lv_at hl 1 rfl) ?_
  refine lv_imul hx hb dX7_byteOf_4 ?_
  refine xt_i (y := nI (8 * k)) (pk_mul _ _) ?_
  refine lv_lshr (v := w >>> ((nI (8 * k)).toInt64 &&& 63)) hx hb dX7_byteOf_5 rfl ?_
  refine lv_ldc2 (v := 255) hx hb hown (hts (.constantLong RX7 21 (255)) (by decide +kernel)) dX7_byteOf_6 ?_
  refine lv_land hx hb dX7_byteOf_9 ?_
  refine lv_l2i (v := ((w >>> ((nI (8 * k)).toInt64 &&& 63)) &&& (255 : Int64)).toInt32) hx hb dX7_byteOf_10 rfl ?_
  exact xr_i (v := (((w >>> ((nI (8 * k)).toInt64 &&& 63)) &&& (255 : Int64)).toInt32)) hx hb hr hlocks hK hS dX7_byteOf_11 (I, L, A, Q, G, J) ⟨rfl, rfl⟩ hP hD
set_option maxRecDepth 20000 in
theorem ggX7_takes_X7_byteOf : GoodIn wsX7_takes wsX7_byteOf := goodIn_r _ [4, 5] rfl (by decide +kernel)
set_option maxRecDepth 20000 in
theorem gX7_takes_X7_byteOf : GoodIn wsX7_takes (va_wsS RX7 17 yX7_byteOf wsX7_byteOf) := goodIn_app (goodIn_of _ (by decide +kernel)) ggX7_takes_X7_byteOf
theorem bdX7_takes_0 : (decode cX7_takes 0 = .ok (.iconst 0, 1)) ∧ (decode cX7_takes 1 = .ok (.istore_n 3, 1)) ∧ (decode cX7_takes 2 = .ok (.iload_n 3, 1)) ∧ (decode cX7_takes 3 = .ok (.iload_n 2, 1)) ∧ (decode cX7_takes 4 = .ok (.if_icmp .ge 32, 3)) ∧ (decode cX7_takes 7 = .ok (.lload_n 0, 1)) ∧ (decode cX7_takes 8 = .ok (.iload_n 3, 1)) ∧ (decode cX7_takes 9 = .ok (.invokestatic 17, 3)) ∧ (decode cX7_takes 12 = .ok (.istore 4, 2)) ∧ (decode cX7_takes 14 = .ok (.iload 4, 2)) ∧ (decode cX7_takes 16 = .ok (.bipush 32, 2)) ∧ (decode cX7_takes 18 = .ok (.if_icmp .lt 10, 3)) ∧ (decode cX7_takes 21 = .ok (.iload 4, 2)) ∧ (decode cX7_takes 23 = .ok (.bipush 126, 2)) ∧ (decode cX7_takes 25 = .ok (.if_icmp .le 5, 3)) ∧ (decode cX7_takes 28 = .ok (.iconst 0, 1)) := by decide +kernel
theorem dX7_takes_0 : decode cX7_takes 0 = .ok (.iconst 0, 1) := bdX7_takes_0.1
theorem dX7_takes_1 : decode cX7_takes 1 = .ok (.istore_n 3, 1) := bdX7_takes_0.2.1
theorem dX7_takes_2 : decode cX7_takes 2 = .ok (.iload_n 3, 1) := bdX7_takes_0.2.2.1
theorem dX7_takes_3 : decode cX7_takes 3 = .ok (.iload_n 2, 1) := bdX7_takes_0.2.2.2.1
theorem dX7_takes_4 : decode cX7_takes 4 = .ok (.if_icmp .ge 32, 3) := bdX7_takes_0.2.2.2.2.1
theorem dX7_takes_7 : decode cX7_takes 7 = .ok (.lload_n 0, 1) := bdX7_takes_0.2.2.2.2.2.1
theorem dX7_takes_8 : decode cX7_takes 8 = .ok (.iload_n 3, 1) := bdX7_takes_0.2.2.2.2.2.2.1
theorem dX7_takes_9 : decode cX7_takes 9 = .ok (.invokestatic 17, 3) := bdX7_takes_0.2.2.2.2.2.2.2.1
theorem dX7_takes_12 : decode cX7_takes 12 = .ok (.istore 4, 2) := bdX7_takes_0.2.2.2.2.2.2.2.2.1
theorem dX7_takes_14 : decode cX7_takes 14 = .ok (.iload 4, 2) := bdX7_takes_0.2.2.2.2.2.2.2.2.2.1
theorem dX7_takes_16 : decode cX7_takes 16 = .ok (.bipush 32, 2) := bdX7_takes_0.2.2.2.2.2.2.2.2.2.2.1
theorem dX7_takes_18 : decode cX7_takes 18 = .ok (.if_icmp .lt 10, 3) := bdX7_takes_0.2.2.2.2.2.2.2.2.2.2.2.1
theorem dX7_takes_21 : decode cX7_takes 21 = .ok (.iload 4, 2) := bdX7_takes_0.2.2.2.2.2.2.2.2.2.2.2.2.1
theorem dX7_takes_23 : decode cX7_takes 23 = .ok (.bipush 126, 2) := bdX7_takes_0.2.2.2.2.2.2.2.2.2.2.2.2.2.1
theorem dX7_takes_25 : decode cX7_takes 25 = .ok (.if_icmp .le 5, 3) := bdX7_takes_0.2.2.2.2.2.2.2.2.2.2.2.2.2.2.1
theorem dX7_takes_28 : decode cX7_takes 28 = .ok (.iconst 0, 1) := bdX7_takes_0.2.2.2.2.2.2.2.2.2.2.2.2.2.2.2
theorem bdX7_takes_29 : (decode cX7_takes 29 = .ok (.ireturn, 1)) ∧ (decode cX7_takes 30 = .ok (.iinc 3 1, 3)) ∧ (decode cX7_takes 33 = .ok (.goto (-31), 3)) ∧ (decode cX7_takes 36 = .ok (.iconst 1, 1)) ∧ (decode cX7_takes 37 = .ok (.ireturn, 1)) := by decide +kernel
theorem dX7_takes_29 : decode cX7_takes 29 = .ok (.ireturn, 1) := bdX7_takes_29.1
theorem dX7_takes_30 : decode cX7_takes 30 = .ok (.iinc 3 1, 3) := bdX7_takes_29.2.1
theorem dX7_takes_33 : decode cX7_takes 33 = .ok (.goto (-31), 3) := bdX7_takes_29.2.2.1
theorem dX7_takes_36 : decode cX7_takes 36 = .ok (.iconst 1, 1) := bdX7_takes_29.2.2.2.1
theorem dX7_takes_37 : decode cX7_takes 37 = .ok (.ireturn, 1) := bdX7_takes_29.2.2.2.2
set_option maxHeartbeats 4000000 in
set_option maxRecDepth 100000 in
theorem k_X7_takes (l : Launch) (dC : Nat → ClassId) (dI : Nat → Nat → Nat) (h : Nat → Nat) (cs : Nat → ClassId) (sz : Nat) (I : Nat → Int32) (L : Nat → Int64) (A : Nat → Nat → Int32) (Q : Nat → Nat → Int64) (G : Nat → Nat → Nat → Int32) (J : Nat → Nat → Nat → Int64) (w : Int64) (n : Nat) (hn8 : n ≤ 8) : Met l yX7_takes wsX7_takes ({ frames := 1, cells := 0, slots := 0, locals := 22 }) (va_Pc [.long w, .int (nI n)] (xPre (dC, dI) ([] : va_W) (tysA cs) sz)) (va_Qi (fun (r : Int32) (u : CS) => ((r = nI 1 ∧ ∀ t : Nat, t < n → okB w t) ∨ (r = nI 0 ∧ ¬ ∀ t : Nat, t < n → okB w t)) ∧ u = (I, L, A, Q, G, J)) (xB (dC, dI) (tysA cs) (va_A ([] : va_W) sz) (fun _ : CS => ([] : va_W))) (va_A ([] : va_W) sz)) 0 0 (va_A ([] : va_W) sz) := by
  refine Met.ofW (cc := cX7_takes) (maxL := 5) (ret := (some .boolean)) (by decide) rfl ?_
  intro p e s m args below meth c s₁ B hml hv
  obtain ⟨rfl, hsz, hP, hK, hD0, hN⟩ := hv
  have hx := B.exec
  have hb := B.bytes
  have hr := B.returns
  have hts := atoms_spec (ws := wsX7_takes) B.pre
  have hown : s.vm.findClass RX7 = some m.cls := findClass_of_methodNamed B.named
  have hlocks := B.notSynchronized
  subst hsz
  have hD := hD0.self (sz := s.heap.size)
  generalize hAe : va_A ([] : va_W) s.heap.size = A0 at hD ⊢
  have hA : ∀ q : Nat, s.heap.size ≤ q → A0 q := fun q h => by rw [← hAe]; exact Or.inr h
  have hl := lv_entry ([.long w, .int (nI n)]) (n := 5) (Nat.le_of_ble_eq_true rfl)
  rw [lg_entry_eq]
  generalize (lg_sl ([.long w, .int (nI n)]) ++ List.replicate (5 - (lg_sl ([.long w, .int (nI n)])).length) Slot.unset).toArray = ls at hl ⊢
  have hl : lv_has ls 5 [(0, .long w), (2, .int (nI n))] := hl
  generalize hH : s.heap = H at hP ⊢
  have hS : va_S A0 s.heap H [] := by rw [← hH]; exact va_S.rf
  refine lv_iconst (v := nI 0) hx hb dX7_takes_0 (by decide) ?_
  refine lv_istore_n (lv' := [(3, .int (nI 0)), (0, .long w), (2, .int (nI n))]) hx hb dX7_takes_1 rfl hl (by decide) rfl (fun ls hl => ?_)
  have cut_2 : ∀ (nf : Nat) (k : Nat), (n - k) < nf → (k ≤ n) → (∀ t : Nat, t < k → okB w t) → ∀ (H : Heap) (locs : List Loc) (ls : Array Slot), va_P (dC, dI) vwCl ([] : va_W) H → va_D A0 ([] : va_W) → va_S A0 s.heap H locs → lv_has ls 5 [(0, .long w), (2, .int (nI n)), (3, .int (nI k))] → W p l e (headSpec wsX7_takes ({ frames := 1, cells := 0, slots := 0, locals := 22 })).room s m ([.long w, .int (nI n)] : List Value).toArray below meth c H locs 0 0 (MQ below (va_Qi (fun (r : Int32) (u : CS) => ((r = nI 1 ∧ ∀ t : Nat, t < n → okB w t) ∨ (r = nI 0 ∧ ¬ ∀ t : Nat, t < n → okB w t)) ∧ u = (I, L, A, Q, G, J)) (xB (dC, dI) (tysA cs) A0 (fun _ : CS => ([] : va_W))) A0) ([.long w, .int (nI n)] : List Value).toArray s 0 0 A0) (F0 m 2 ls []) := by
    intro nf
    induction nf with
    | zero => intro k hm; exact absurd hm (Nat.not_lt_zero _)
    | succ nf ih_2 =>
      intro k hm_2 hkn_2 hk_2 H locs ls hP hD hS hl
      refine lv_iload_n hx hb dX7_takes_2 rfl (lv_at hl 2 rfl) ?_
      refine lv_iload_n hx hb dX7_takes_3 rfl (lv_at hl 1 rfl) ?_
      refine xn_ge (tgt := 36) hx hb dX7_takes_4 (by decide) (by omega) (by omega) (fun c_4_0 => ?_) (fun c_4_0 => ?_)
      · skip
        refine lv_iconst (v := nI 1) hx hb dX7_takes_36 (by decide) ?_
        exact xr_z (v := (nI 1)) hx hb hr hlocks hK hS dX7_takes_37 (rfl) (I, L, A, Q, G, J) ⟨(Or.inl ⟨rfl, fun t ht => hk_2 t (by omega)⟩), rfl⟩ hP hD
      · skip
        refine lv_lload_n hx hb dX7_takes_7 rfl (lv_at hl 0 rfl) ?_
        refine lv_iload_n hx hb dX7_takes_8 rfl (lv_at hl 2 rfl) ?_
        refine xj_i (wc := ([] : va_W)) (wr := ([] : va_W)) hP hD hS hA [] [] rfl rfl (by decide +kernel) (by decide +kernel) (va_runS (As := [.long w, .int (nI k)]) (rest := []) ⟨hx, hb, hml, hown, hts⟩ (k_X7_byteOf l dC dI h cs H.size I L A Q G J w k) (va_cwS 2 hts gX7_takes_X7_byteOf rfl rfl rfl (by decide +kernel) ⟨Nat.le_of_ble_eq_true rfl, Nat.le_of_ble_eq_true rfl⟩) (xpS (wc := ([] : va_W)) hP hD hK hN [] rfl (by decide) _) rfl rfl hl.1 rfl (lv_room (Nat.le_of_ble_eq_true rfl)) dX7_takes_9 ⟨Nat.zero_le _, Nat.zero_le _⟩) (fun r_3 u_2 H locs hw hP hD hS => ?_)
        obtain ⟨hf_4, rfl⟩ := hw
        obtain rfl := hf_4
        refine lv_istore (lv' := [(4, .int ((byteL w k).toInt32)), (0, .long w), (2, .int (nI n)), (3, .int (nI k))]) hx hb dX7_takes_12 hl (by decide) rfl (fun ls hl => ?_)
        refine lv_iload hx hb dX7_takes_14 (lv_at hl 0 rfl) ?_
        refine lv_bipush (v := nI 32) hx hb dX7_takes_16 (by decide) ?_
        refine lv_icmp_lt (tgt := 28) hx hb dX7_takes_18 (by decide) (fun c_18_4 => ?_) (fun c_18_4 => ?_)
        · skip
          refine lv_iconst (v := nI 0) hx hb dX7_takes_28 (by decide) ?_
          exact xr_z (v := (nI 0)) hx hb hr hlocks hK hS dX7_takes_29 (rfl) (I, L, A, Q, G, J) ⟨(Or.inr ⟨rfl, fun g => absurd ((okB_iff w k).mp (g k (by omega))) (by first | exact (fun q => q.1 (by assumption)) | exact (fun q => absurd q.2 (by assumption)))⟩), rfl⟩ hP hD
        · skip
          refine lv_iload hx hb dX7_takes_21 (lv_at hl 0 rfl) ?_
          refine lv_bipush (v := nI 126) hx hb dX7_takes_23 (by decide) ?_
          refine lv_icmp_le (tgt := 30) hx hb dX7_takes_25 (by decide) (fun c_25_5 => ?_) (fun c_25_5 => ?_)
          · skip
            refine lv_iinc (v := nI (k + 1)) (lv' := [(3, .int (nI (k + 1))), (4, .int ((byteL w k).toInt32)), (0, .long w), (2, .int (nI n))]) hx hb dX7_takes_30 hl (k := 3) rfl (nI_1 _) (by decide) rfl (fun ls hl => ?_)
            refine lv_goto (tgt := 2) hx hb dX7_takes_33 (by decide) ?_
            exact ih_2 (k + 1) (by omega) (by first | assumption | omega) (by first | exact (fun t ht => absurd ht (Nat.not_lt_zero t)) | exact ok_all hk_2 ((okB_iff w k).mpr ⟨by assumption, by assumption⟩)) _ _ _ hP hD hS (lv_sub hl [2, 3, 0] rfl)
          · skip
            refine lv_iconst (v := nI 0) hx hb dX7_takes_28 (by decide) ?_
            exact xr_z (v := (nI 0)) hx hb hr hlocks hK hS dX7_takes_29 (rfl) (I, L, A, Q, G, J) ⟨(Or.inr ⟨rfl, fun g => absurd ((okB_iff w k).mp (g k (by omega))) (by first | exact (fun q => q.1 (by assumption)) | exact (fun q => absurd q.2 (by assumption)))⟩), rfl⟩ hP hD
  exact cut_2 _ 0 (Nat.lt_succ_self _) (by first | assumption | omega) (by first | exact (fun t ht => absurd ht (Nat.not_lt_zero t)) | exact ok_all hk_2 ((okB_iff w k).mpr ⟨by assumption, by assumption⟩)) _ _ _ hP hD hS (lv_sub hl [1, 2, 0] rfl)
theorem bdX7_hasRoom_0 : (decode cX7_hasRoom 0 = .ok (.aload_n 0, 1)) ∧ (decode cX7_hasRoom 1 = .ok (.getfield 13, 3)) ∧ (decode cX7_hasRoom 4 = .ok (.bipush 90, 2)) ∧ (decode cX7_hasRoom 6 = .ok (.iload_n 1, 1)) ∧ (decode cX7_hasRoom 7 = .ok (.isub, 1)) ∧ (decode cX7_hasRoom 8 = .ok (.if_icmp .gt 7, 3)) ∧ (decode cX7_hasRoom 11 = .ok (.iconst 1, 1)) ∧ (decode cX7_hasRoom 12 = .ok (.goto 4, 3)) ∧ (decode cX7_hasRoom 15 = .ok (.iconst 0, 1)) ∧ (decode cX7_hasRoom 16 = .ok (.ireturn, 1)) := by decide +kernel
theorem dX7_hasRoom_0 : decode cX7_hasRoom 0 = .ok (.aload_n 0, 1) := bdX7_hasRoom_0.1
theorem dX7_hasRoom_1 : decode cX7_hasRoom 1 = .ok (.getfield 13, 3) := bdX7_hasRoom_0.2.1
theorem dX7_hasRoom_4 : decode cX7_hasRoom 4 = .ok (.bipush 90, 2) := bdX7_hasRoom_0.2.2.1
theorem dX7_hasRoom_6 : decode cX7_hasRoom 6 = .ok (.iload_n 1, 1) := bdX7_hasRoom_0.2.2.2.1
theorem dX7_hasRoom_7 : decode cX7_hasRoom 7 = .ok (.isub, 1) := bdX7_hasRoom_0.2.2.2.2.1
theorem dX7_hasRoom_8 : decode cX7_hasRoom 8 = .ok (.if_icmp .gt 7, 3) := bdX7_hasRoom_0.2.2.2.2.2.1
theorem dX7_hasRoom_11 : decode cX7_hasRoom 11 = .ok (.iconst 1, 1) := bdX7_hasRoom_0.2.2.2.2.2.2.1
theorem dX7_hasRoom_12 : decode cX7_hasRoom 12 = .ok (.goto 4, 3) := bdX7_hasRoom_0.2.2.2.2.2.2.2.1
theorem dX7_hasRoom_15 : decode cX7_hasRoom 15 = .ok (.iconst 0, 1) := bdX7_hasRoom_0.2.2.2.2.2.2.2.2.1
theorem dX7_hasRoom_16 : decode cX7_hasRoom 16 = .ok (.ireturn, 1) := bdX7_hasRoom_0.2.2.2.2.2.2.2.2.2
set_option maxHeartbeats 4000000 in
set_option maxRecDepth 100000 in
theorem k_X7_hasRoom (l : Launch) (dC : Nat → ClassId) (dI : Nat → Nat → Nat) (h : Nat → Nat) (cs : Nat → ClassId) (sz : Nat) (I : Nat → Int32) (L : Nat → Int64) (A : Nat → Nat → Int32) (Q : Nat → Nat → Int64) (G : Nat → Nat → Nat → Int32) (J : Nat → Nat → Nat → Int64) (n T : Nat) (hn8 : n ≤ 8) (hT : I 151 = nI T) (hT9 : T ≤ 90) : Met l yX7_hasRoom wsX7_hasRoom ({ frames := 0, cells := 0, slots := 0, locals := 0 }) (va_Pc [.ref (h 103), .int (nI n)] (xPre (dC, dI) (wTape h cs I L A Q G J) (tysA cs) sz)) (va_Qi (fun (r : Int32) (u : CS) => ((r = nI 1 ∧ T + n ≤ 90) ∨ (r = nI 0 ∧ 90 < T + n)) ∧ u = (I, L, A, Q, G, J)) (xB (dC, dI) (tysA cs) (va_A (wTape h cs I L A Q G J) sz) (fun u : CS => wTape h cs u.1 u.2.1 u.2.2.1 u.2.2.2.1 u.2.2.2.2.1 u.2.2.2.2.2)) (va_A (wTape h cs I L A Q G J) sz)) 0 0 (va_A (wTape h cs I L A Q G J) sz) := by
  refine Met.ofW (cc := cX7_hasRoom) (maxL := 2) (ret := (some .boolean)) (by decide) rfl ?_
  intro p e s m args below meth c s₁ B hml hv
  obtain ⟨rfl, hsz, hP, hK, hD0, hN⟩ := hv
  have hx := B.exec
  have hb := B.bytes
  have hr := B.returns
  have hts := atoms_spec (ws := wsX7_hasRoom) B.pre
  have hown : s.vm.findClass RX7 = some m.cls := findClass_of_methodNamed B.named
  have hlocks := B.notSynchronized
  subst hsz
  have hD := hD0.self (sz := s.heap.size)
  generalize hAe : va_A (wTape h cs I L A Q G J) s.heap.size = A0 at hD ⊢
  have hA : ∀ q : Nat, s.heap.size ≤ q → A0 q := fun q h => by rw [← hAe]; exact Or.inr h
  have hl := lv_entry ([.ref (h 103), .int (nI n)]) (n := 2) (Nat.le_of_ble_eq_true rfl)
  rw [lg_entry_eq]
  generalize (lg_sl ([.ref (h 103), .int (nI n)]) ++ List.replicate (2 - (lg_sl ([.ref (h 103), .int (nI n)])).length) Slot.unset).toArray = ls at hl ⊢
  have hl : lv_has ls 2 [(0, .ref (h 103)), (1, .int (nI n))] := hl
  generalize hH : s.heap = H at hP ⊢
  have hS : va_S A0 s.heap H [] := by rw [← hH]; exact va_S.rf
  have hinX7 : ∀ w ∈ wsX70, w ∈ wsX7_hasRoom := by decide +kernel
  refine lv_aload_n hx hb dX7_hasRoom_0 rfl (lv_at hl 0 rfl) ?_
  refine va_get (D := (dC, dI)) (ci := 7) (v := .int (I 151)) (C := RX7) (T := TX7) (N := 2) hx hb hts hinX7 hown hK hP 0 rfl rfl 1 (by decide) (hts (.fieldLink RX7 13 "MixedWords$Tape" "length" "I") (by decide +kernel)) (fun _ h9 => h9) rfl dX7_hasRoom_1 ?_
  refine xt_i (y := nI T) (hT) ?_
  refine lv_bipush (v := nI 90) hx hb dX7_hasRoom_4 (by decide) ?_
  refine lv_iload_n hx hb dX7_hasRoom_6 rfl (lv_at hl 1 rfl) ?_
  refine lv_isub hx hb dX7_hasRoom_7 ?_
  refine xt_i (y := nI (90 - n)) (pk_sub (by omega)) ?_
  refine xn_gt (tgt := 15) hx hb dX7_hasRoom_8 (by decide) (by omega) (by omega) (fun c_8_0 => ?_) (fun c_8_0 => ?_)
  · skip
    refine lv_iconst (v := nI 0) hx hb dX7_hasRoom_15 (by decide) ?_
    exact xr_z (v := (nI 0)) hx hb hr hlocks hK hS dX7_hasRoom_16 (rfl) (I, L, A, Q, G, J) ⟨(Or.inr ⟨rfl, by omega⟩), rfl⟩ hP hD
  · skip
    refine lv_iconst (v := nI 1) hx hb dX7_hasRoom_11 (by decide) ?_
    refine lv_goto (tgt := 16) hx hb dX7_hasRoom_12 (by decide) ?_
    exact xr_z (v := (nI 1)) hx hb hr hlocks hK hS dX7_hasRoom_16 (rfl) (I, L, A, Q, G, J) ⟨(Or.inl ⟨rfl, by omega⟩), rfl⟩ hP hD
set_option maxRecDepth 20000 in
theorem ggX7_append_X7_byteOf : GoodIn wsX7_append wsX7_byteOf := goodIn_r _ [6, 7] rfl (by decide +kernel)
set_option maxRecDepth 20000 in
theorem gX7_append_X7_byteOf : GoodIn wsX7_append (va_wsS RX7 17 yX7_byteOf wsX7_byteOf) := goodIn_app (goodIn_of _ (by decide +kernel)) ggX7_append_X7_byteOf
theorem bdX7_append_0 : (decode cX7_append 0 = .ok (.iload_n 3, 1)) ∧ (decode cX7_append 1 = .ok (.iconst 1, 1)) ∧ (decode cX7_append 2 = .ok (.isub, 1)) ∧ (decode cX7_append 3 = .ok (.istore 4, 2)) ∧ (decode cX7_append 5 = .ok (.iload 4, 2)) ∧ (decode cX7_append 7 = .ok (.ifCond .lt 35, 3)) ∧ (decode cX7_append 10 = .ok (.aload_n 0, 1)) ∧ (decode cX7_append 11 = .ok (.getfield 9, 3)) ∧ (decode cX7_append 14 = .ok (.aload_n 0, 1)) ∧ (decode cX7_append 15 = .ok (.getfield 13, 3)) ∧ (decode cX7_append 18 = .ok (.lload_n 1, 1)) ∧ (decode cX7_append 19 = .ok (.iload 4, 2)) ∧ (decode cX7_append 21 = .ok (.invokestatic 17, 3)) ∧ (decode cX7_append 24 = .ok (.i2b, 1)) ∧ (decode cX7_append 25 = .ok (.bastore, 1)) ∧ (decode cX7_append 26 = .ok (.aload_n 0, 1)) := by decide +kernel
theorem dX7_append_0 : decode cX7_append 0 = .ok (.iload_n 3, 1) := bdX7_append_0.1
theorem dX7_append_1 : decode cX7_append 1 = .ok (.iconst 1, 1) := bdX7_append_0.2.1
theorem dX7_append_2 : decode cX7_append 2 = .ok (.isub, 1) := bdX7_append_0.2.2.1
theorem dX7_append_3 : decode cX7_append 3 = .ok (.istore 4, 2) := bdX7_append_0.2.2.2.1
theorem dX7_append_5 : decode cX7_append 5 = .ok (.iload 4, 2) := bdX7_append_0.2.2.2.2.1
theorem dX7_append_7 : decode cX7_append 7 = .ok (.ifCond .lt 35, 3) := bdX7_append_0.2.2.2.2.2.1
theorem dX7_append_10 : decode cX7_append 10 = .ok (.aload_n 0, 1) := bdX7_append_0.2.2.2.2.2.2.1
theorem dX7_append_11 : decode cX7_append 11 = .ok (.getfield 9, 3) := bdX7_append_0.2.2.2.2.2.2.2.1
theorem dX7_append_14 : decode cX7_append 14 = .ok (.aload_n 0, 1) := bdX7_append_0.2.2.2.2.2.2.2.2.1
theorem dX7_append_15 : decode cX7_append 15 = .ok (.getfield 13, 3) := bdX7_append_0.2.2.2.2.2.2.2.2.2.1
theorem dX7_append_18 : decode cX7_append 18 = .ok (.lload_n 1, 1) := bdX7_append_0.2.2.2.2.2.2.2.2.2.2.1
theorem dX7_append_19 : decode cX7_append 19 = .ok (.iload 4, 2) := bdX7_append_0.2.2.2.2.2.2.2.2.2.2.2.1
theorem dX7_append_21 : decode cX7_append 21 = .ok (.invokestatic 17, 3) := bdX7_append_0.2.2.2.2.2.2.2.2.2.2.2.2.1
theorem dX7_append_24 : decode cX7_append 24 = .ok (.i2b, 1) := bdX7_append_0.2.2.2.2.2.2.2.2.2.2.2.2.2.1
theorem dX7_append_25 : decode cX7_append 25 = .ok (.bastore, 1) := bdX7_append_0.2.2.2.2.2.2.2.2.2.2.2.2.2.2.1
theorem dX7_append_26 : decode cX7_append 26 = .ok (.aload_n 0, 1) := bdX7_append_0.2.2.2.2.2.2.2.2.2.2.2.2.2.2.2
theorem bdX7_append_27 : (decode cX7_append 27 = .ok (.dup, 1)) ∧ (decode cX7_append 28 = .ok (.getfield 13, 3)) ∧ (decode cX7_append 31 = .ok (.iconst 1, 1)) ∧ (decode cX7_append 32 = .ok (.iadd, 1)) ∧ (decode cX7_append 33 = .ok (.putfield 13, 3)) ∧ (decode cX7_append 36 = .ok (.iinc 4 (-1), 3)) ∧ (decode cX7_append 39 = .ok (.goto (-34), 3)) ∧ (decode cX7_append 42 = .ok (.aload_n 0, 1)) ∧ (decode cX7_append 43 = .ok (.getfield 13, 3)) ∧ (decode cX7_append 46 = .ok (.ireturn, 1)) := by decide +kernel
theorem dX7_append_27 : decode cX7_append 27 = .ok (.dup, 1) := bdX7_append_27.1
theorem dX7_append_28 : decode cX7_append 28 = .ok (.getfield 13, 3) := bdX7_append_27.2.1
theorem dX7_append_31 : decode cX7_append 31 = .ok (.iconst 1, 1) := bdX7_append_27.2.2.1
theorem dX7_append_32 : decode cX7_append 32 = .ok (.iadd, 1) := bdX7_append_27.2.2.2.1
theorem dX7_append_33 : decode cX7_append 33 = .ok (.putfield 13, 3) := bdX7_append_27.2.2.2.2.1
theorem dX7_append_36 : decode cX7_append 36 = .ok (.iinc 4 (-1), 3) := bdX7_append_27.2.2.2.2.2.1
theorem dX7_append_39 : decode cX7_append 39 = .ok (.goto (-34), 3) := bdX7_append_27.2.2.2.2.2.2.1
theorem dX7_append_42 : decode cX7_append 42 = .ok (.aload_n 0, 1) := bdX7_append_27.2.2.2.2.2.2.2.1
theorem dX7_append_43 : decode cX7_append 43 = .ok (.getfield 13, 3) := bdX7_append_27.2.2.2.2.2.2.2.2.1
theorem dX7_append_46 : decode cX7_append 46 = .ok (.ireturn, 1) := bdX7_append_27.2.2.2.2.2.2.2.2.2
set_option maxHeartbeats 4000000 in
set_option maxRecDepth 100000 in
theorem k_X7_append (l : Launch) (dC : Nat → ClassId) (dI : Nat → Nat → Nat) (h : Nat → Nat) (cs : Nat → ClassId) (sz : Nat) (I : Nat → Int32) (L : Nat → Int64) (A : Nat → Nat → Int32) (Q : Nat → Nat → Int64) (G : Nat → Nat → Nat → Int32) (J : Nat → Nat → Nat → Int64) (w : Int64) (n T : Nat) (hn1 : 1 ≤ n) (hn8 : n ≤ 8) (hTn : T + n ≤ 90) (hT : I 151 = nI T) (hT9 : T ≤ 90) : Met l yX7_append wsX7_append ({ frames := 1, cells := 0, slots := 0, locals := 22 }) (va_Pc [.ref (h 103), .long w, .int (nI n)] (xPre (dC, dI) (wTape h cs I L A Q G J) (tysA cs) sz)) (va_Qi (fun (r : Int32) (u : CS) => ∃ x151 : Int32, ∃ f150 : Nat → Int32, (r = nI (T + n) ∧ x151 = nI (T + n) ∧ (∀ q : Nat, q < T → f150 q = A 150 q) ∧ ∀ i : Nat, i < n → f150 (T + (n - 1 - i)) = byteC w i) ∧ u = ((va_up I 151 x151), L, (va_up A 150 f150), Q, G, J)) (xB (dC, dI) (tysA cs) (va_A (wTape h cs I L A Q G J) sz) (fun u : CS => wTape h cs u.1 u.2.1 u.2.2.1 u.2.2.2.1 u.2.2.2.2.1 u.2.2.2.2.2)) (va_A (wTape h cs I L A Q G J) sz)) 0 0 (va_A (wTape h cs I L A Q G J) sz) := by
  refine Met.ofW (cc := cX7_append) (maxL := 5) (ret := (some .int)) (by decide) rfl ?_
  intro p e s m args below meth c s₁ B hml hv
  obtain ⟨rfl, hsz, hP, hK, hD0, hN⟩ := hv
  have hx := B.exec
  have hb := B.bytes
  have hr := B.returns
  have hts := atoms_spec (ws := wsX7_append) B.pre
  have hown : s.vm.findClass RX7 = some m.cls := findClass_of_methodNamed B.named
  have hlocks := B.notSynchronized
  subst hsz
  have hD := hD0.self (sz := s.heap.size)
  generalize hAe : va_A (wTape h cs I L A Q G J) s.heap.size = A0 at hD ⊢
  have hA : ∀ q : Nat, s.heap.size ≤ q → A0 q := fun q h => by rw [← hAe]; exact Or.inr h
  have hl := lv_entry ([.ref (h 103), .long w, .int (nI n)]) (n := 5) (Nat.le_of_ble_eq_true rfl)
  rw [lg_entry_eq]
  generalize (lg_sl ([.ref (h 103), .long w, .int (nI n)]) ++ List.replicate (5 - (lg_sl ([.ref (h 103), .long w, .int (nI n)])).length) Slot.unset).toArray = ls at hl ⊢
  have hl : lv_has ls 5 [(0, .ref (h 103)), (1, .long w), (3, .int (nI n))] := hl
  generalize hH : s.heap = H at hP ⊢
  have hS : va_S A0 s.heap H [] := by rw [← hH]; exact va_S.rf
  have hinX7 : ∀ w ∈ wsX70, w ∈ wsX7_append := by decide +kernel
  refine lv_iload_n hx hb dX7_append_0 rfl (lv_at hl 2 rfl) ?_
  refine lv_iconst (v := nI 1) hx hb dX7_append_1 (by decide) ?_
  refine lv_isub hx hb dX7_append_2 ?_
  refine xt_i (y := nI (n - 1)) (pk_sub (by omega)) ?_
  refine xt_i (y := kdec n) (kdec_pos (by omega)).symm ?_
  refine lv_istore (lv' := [(4, .int (kdec n)), (0, .ref (h 103)), (1, .long w), (3, .int (nI n))]) hx hb dX7_append_3 hl (by decide) rfl (fun ls hl => ?_)
  have cut_5 : ∀ (nf : Nat) (j : Nat) (t10 : Nat) (tp : Nat → Int32), j < nf → (j ≤ n) → (t10 = T + (n - j)) → (∀ q : Nat, q < T → tp q = A 150 q) → (∀ i : Nat, j ≤ i → i < n → tp (T + (n - 1 - i)) = byteC w i) → ∀ (H : Heap) (locs : List Loc) (ls : Array Slot), va_P (dC, dI) vwCl (wTape h cs (va_up I 151 (nI t10)) L (va_up A 150 tp) Q G J) H → va_D A0 (wTape h cs (va_up I 151 (nI t10)) L (va_up A 150 tp) Q G J) → va_S A0 s.heap H locs → lv_has ls 5 [(0, .ref (h 103)), (1, .long w), (3, .int (nI n)), (4, .int (kdec j))] → W p l e (headSpec wsX7_append ({ frames := 1, cells := 0, slots := 0, locals := 22 })).room s m ([.ref (h 103), .long w, .int (nI n)] : List Value).toArray below meth c H locs 0 0 (MQ below (va_Qi (fun (r : Int32) (u : CS) => ∃ x151 : Int32, ∃ f150 : Nat → Int32, (r = nI (T + n) ∧ x151 = nI (T + n) ∧ (∀ q : Nat, q < T → f150 q = A 150 q) ∧ ∀ i : Nat, i < n → f150 (T + (n - 1 - i)) = byteC w i) ∧ u = ((va_up I 151 x151), L, (va_up A 150 f150), Q, G, J)) (xB (dC, dI) (tysA cs) A0 (fun u : CS => wTape h cs u.1 u.2.1 u.2.2.1 u.2.2.2.1 u.2.2.2.2.1 u.2.2.2.2.2)) A0) ([.ref (h 103), .long w, .int (nI n)] : List Value).toArray s 0 0 A0) (F0 m 5 ls []) := by
    intro nf
    induction nf with
    | zero => intro j t10 tp hm; exact absurd hm (Nat.not_lt_zero _)
    | succ nf ih_5 =>
      intro j t10 tp hm_5 hj_5 ht_5 hf1_5 hf2_5 H locs ls hP hD hS hl
      refine lv_iload hx hb dX7_append_5 (lv_at hl 3 rfl) ?_
      refine lv_if_lt (tgt := 42) hx hb dX7_append_7 (by decide) (fun c_7_0 => ?_) (fun c_7_0 => ?_)
      · skip
        have hj0 := kdec_0 (by omega) c_7_0
        refine lv_aload_n hx hb dX7_append_42 rfl (lv_at hl 0 rfl) ?_
        refine va_get (D := (dC, dI)) (ci := 7) (v := .int (nI t10)) (C := RX7) (T := TX7) (N := 2) hx hb hts hinX7 hown hK hP 0 rfl rfl 1 (by decide) (hts (.fieldLink RX7 13 "MixedWords$Tape" "length" "I") (by decide +kernel)) (fun _ h9 => h9) rfl dX7_append_43 ?_
        exact xr_i (v := (nI t10)) hx hb hr hlocks hK hS dX7_append_46 ((va_up I 151 (nI t10)), L, (va_up A 150 tp), Q, G, J) ⟨(nI t10), tp, ⟨by rw [ht_5, hj0]; rfl, by rw [ht_5, hj0]; rfl, hf1_5, fun i hi => hf2_5 i (by omega) hi⟩, rfl⟩ hP hD
      · skip
        have hj0 := kdec_1 c_7_0
        rw [kdec_pos hj0] at hl
        refine lv_aload_n hx hb dX7_append_10 rfl (lv_at hl 0 rfl) ?_
        refine va_get (D := (dC, dI)) (ci := 7) (v := .ref (h 150)) (C := RX7) (T := TX7) (N := 2) hx hb hts hinX7 hown hK hP 0 rfl rfl 0 (by decide) (hts (.fieldLink RX7 9 "MixedWords$Tape" "bytes" "[B") (by decide +kernel)) (fun _ h9 => h9) rfl dX7_append_11 ?_
        refine lv_aload_n hx hb dX7_append_14 rfl (lv_at hl 0 rfl) ?_
        refine va_get (D := (dC, dI)) (ci := 7) (v := .int (nI t10)) (C := RX7) (T := TX7) (N := 2) hx hb hts hinX7 hown hK hP 0 rfl rfl 1 (by decide) (hts (.fieldLink RX7 13 "MixedWords$Tape" "length" "I") (by decide +kernel)) (fun _ h9 => h9) rfl dX7_append_15 ?_
        refine lv_lload_n hx hb dX7_append_18 rfl (lv_at hl 1 rfl) ?_
        refine lv_iload hx hb dX7_append_19 (lv_at hl 3 rfl) ?_
        refine xj_i (wc := ([] : va_W)) (wr := (wTape h cs (va_up I 151 (nI t10)) L (va_up A 150 tp) Q G J)) hP hD hS hA [] [0, 1] rfl rfl (by decide +kernel) (by decide +kernel) (va_runS (As := [.long w, .int (nI (j - 1))]) (rest := [.int (nI t10), .ref (h 150)]) ⟨hx, hb, hml, hown, hts⟩ (k_X7_byteOf l dC dI h cs H.size I L A Q G J w (j - 1)) (va_cwS 2 hts gX7_append_X7_byteOf rfl rfl rfl (by decide +kernel) ⟨Nat.le_of_ble_eq_true rfl, Nat.le_of_ble_eq_true rfl⟩) (xpS (wc := ([] : va_W)) hP hD hK hN [] rfl (by decide) _) rfl rfl hl.1 rfl (lv_room (Nat.le_of_ble_eq_true rfl)) dX7_append_21 ⟨Nat.zero_le _, Nat.zero_le _⟩) (fun r_3 u_2 H locs hw hP hD hS => ?_)
        obtain ⟨hf_4, rfl⟩ := hw
        have hP : va_P (dC, dI) vwCl (wTape h cs (va_up I 151 (nI t10)) L (va_up A 150 tp) Q G J) H := hP
        have hD : va_D A0 (wTape h cs (va_up I 151 (nI t10)) L (va_up A 150 tp) Q G J) := hD
        obtain rfl := hf_4
        refine lv_i2b (v := ((byteL w (j - 1)).toInt32).toInt8.toInt32) hx hb dX7_append_24 rfl ?_
        refine xa_bast hx hb hK hP hD hS 1 2 rfl rfl (by omega) (by decide) dX7_append_25 (fun H locs hP hD hS => ?_)
        have hP : va_P (dC, dI) vwCl (wTape h cs (va_up I 151 (nI t10)) L (va_up A 150 (upd tp t10 (vp_nar .byte (((byteL w (j - 1)).toInt32).toInt8.toInt32)))) Q G J) H := hP
        have hD : va_D A0 (wTape h cs (va_up I 151 (nI t10)) L (va_up A 150 (upd tp t10 (vp_nar .byte (((byteL w (j - 1)).toInt32).toInt8.toInt32)))) Q G J) := hD
        refine lv_aload_n hx hb dX7_append_26 rfl (lv_at hl 0 rfl) ?_
        refine lv_dup hx hb dX7_append_27 rfl ?_
        refine va_get (D := (dC, dI)) (ci := 7) (v := .int (nI t10)) (C := RX7) (T := TX7) (N := 2) hx hb hts hinX7 hown hK hP 0 rfl rfl 1 (by decide) (hts (.fieldLink RX7 13 "MixedWords$Tape" "length" "I") (by decide +kernel)) (fun _ h9 => h9) rfl dX7_append_28 ?_
        refine lv_iconst (v := nI 1) hx hb dX7_append_31 (by decide) ?_
        refine lv_iadd hx hb dX7_append_32 ?_
        refine xt_i (y := nI (t10 + 1)) (nI_add _ _) ?_
        refine va_put (D := (dC, dI)) (ci := 7) (v := .int (nI (t10 + 1))) (ty := .int) (C := RX7) (T := TX7) (N := 2) hx hb hts hinX7 tyX7 tyX7_ok nmX7 hown hK hP hD hS 0 rfl rfl 1 (by decide) (hts (.fieldLink RX7 13 "MixedWords$Tape" "length" "I") (by decide +kernel)) (fun _ h9 => h9) rfl (by decide +kernel) rfl rfl (Nat.le_of_ble_eq_true rfl) dX7_append_33 (fun H locs hP hD hS => ?_)
        have hP : va_P (dC, dI) vwCl (wTape h cs (va_up I 151 (nI (t10 + 1))) L (va_up A 150 (upd tp t10 (vp_nar .byte (((byteL w (j - 1)).toInt32).toInt8.toInt32)))) Q G J) H := hP
        have hD : va_D A0 (wTape h cs (va_up I 151 (nI (t10 + 1))) L (va_up A 150 (upd tp t10 (vp_nar .byte (((byteL w (j - 1)).toInt32).toInt8.toInt32)))) Q G J) := hD
        refine lv_iinc (v := kdec (j - 1)) (lv' := [(4, .int (kdec (j - 1))), (0, .ref (h 103)), (1, .long w), (3, .int (nI n))]) hx hb dX7_append_36 hl (k := 3) rfl (kdec_inc _) (by decide) rfl (fun ls hl => ?_)
        refine lv_goto (tgt := 5) hx hb dX7_append_39 (by decide) ?_
        exact ih_5 (j - 1) (t10 + 1) (upd tp t10 (vp_nar .byte (((byteL w (j - 1)).toInt32).toInt8.toInt32))) (by omega) (by first | assumption | omega) (by first | assumption | omega) (by first | exact (fun _ _ => rfl) | exact (tape_c ht_5 hj0 (by omega) hf1_5 hf2_5).1) (by first | (intro i h1 h2; omega) | exact (tape_c ht_5 hj0 (by omega) hf1_5 hf2_5).2) _ _ _ hP hD hS (lv_sub hl [1, 2, 3, 0] rfl)
  have hP : va_P (dC, dI) vwCl (wTape h cs (va_up I 151 (nI T)) L A Q G J) H := by rw [← hT]; exact hP
  have hD : va_D A0 (wTape h cs (va_up I 151 (nI T)) L A Q G J) := by rw [← hT]; exact hD
  exact cut_5 _ n T (A 150) (Nat.lt_succ_self _) (by first | assumption | omega) (by first | assumption | omega) (by first | exact (fun _ _ => rfl) | exact (tape_c ht_5 hj0 (by omega) hf1_5 hf2_5).1) (by first | (intro i h1 h2; omega) | exact (tape_c ht_5 hj0 (by omega) hf1_5 hf2_5).2) _ _ _ hP hD hS (lv_sub hl [1, 2, 3, 0] rfl)
theorem bdX7_at_0 : (decode cX7_at 0 = .ok (.iload_n 1, 1)) ∧ (decode cX7_at 1 = .ok (.ifCond .lt 20, 3)) ∧ (decode cX7_at 4 = .ok (.iload_n 1, 1)) ∧ (decode cX7_at 5 = .ok (.aload_n 0, 1)) ∧ (decode cX7_at 6 = .ok (.getfield 13, 3)) ∧ (decode cX7_at 9 = .ok (.if_icmp .ge 12, 3)) ∧ (decode cX7_at 12 = .ok (.aload_n 0, 1)) ∧ (decode cX7_at 13 = .ok (.getfield 9, 3)) ∧ (decode cX7_at 16 = .ok (.iload_n 1, 1)) ∧ (decode cX7_at 17 = .ok (.baload, 1)) ∧ (decode cX7_at 18 = .ok (.goto 4, 3)) ∧ (decode cX7_at 21 = .ok (.iconst (-1), 1)) ∧ (decode cX7_at 22 = .ok (.ireturn, 1)) := by decide +kernel
theorem dX7_at_0 : decode cX7_at 0 = .ok (.iload_n 1, 1) := bdX7_at_0.1
theorem dX7_at_1 : decode cX7_at 1 = .ok (.ifCond .lt 20, 3) := bdX7_at_0.2.1
theorem dX7_at_4 : decode cX7_at 4 = .ok (.iload_n 1, 1) := bdX7_at_0.2.2.1
theorem dX7_at_5 : decode cX7_at 5 = .ok (.aload_n 0, 1) := bdX7_at_0.2.2.2.1
theorem dX7_at_6 : decode cX7_at 6 = .ok (.getfield 13, 3) := bdX7_at_0.2.2.2.2.1
theorem dX7_at_9 : decode cX7_at 9 = .ok (.if_icmp .ge 12, 3) := bdX7_at_0.2.2.2.2.2.1
theorem dX7_at_12 : decode cX7_at 12 = .ok (.aload_n 0, 1) := bdX7_at_0.2.2.2.2.2.2.1
theorem dX7_at_13 : decode cX7_at 13 = .ok (.getfield 9, 3) := bdX7_at_0.2.2.2.2.2.2.2.1
theorem dX7_at_16 : decode cX7_at 16 = .ok (.iload_n 1, 1) := bdX7_at_0.2.2.2.2.2.2.2.2.1
theorem dX7_at_17 : decode cX7_at 17 = .ok (.baload, 1) := bdX7_at_0.2.2.2.2.2.2.2.2.2.1
theorem dX7_at_18 : decode cX7_at 18 = .ok (.goto 4, 3) := bdX7_at_0.2.2.2.2.2.2.2.2.2.2.1
theorem dX7_at_21 : decode cX7_at 21 = .ok (.iconst (-1), 1) := bdX7_at_0.2.2.2.2.2.2.2.2.2.2.2.1
theorem dX7_at_22 : decode cX7_at 22 = .ok (.ireturn, 1) := bdX7_at_0.2.2.2.2.2.2.2.2.2.2.2.2
set_option maxHeartbeats 4000000 in
set_option maxRecDepth 100000 in
theorem k_X7_at (l : Launch) (dC : Nat → ClassId) (dI : Nat → Nat → Nat) (h : Nat → Nat) (cs : Nat → ClassId) (sz : Nat) (I : Nat → Int32) (L : Nat → Int64) (A : Nat → Nat → Int32) (Q : Nat → Nat → Int64) (G : Nat → Nat → Nat → Int32) (J : Nat → Nat → Nat → Int64) (x : Int32) (T : Nat) (hT : I 151 = nI T) (hT9 : T ≤ 90) : Met l yX7_at wsX7_at ({ frames := 0, cells := 0, slots := 0, locals := 0 }) (va_Pc [.ref (h 103), .int x] (xPre (dC, dI) (wTape h cs I L A Q G J) (tysA cs) sz)) (va_Qi (fun (r : Int32) (u : CS) => ((∃ i : Nat, i < T ∧ x = nI i ∧ r = A 150 i) ∨ (r = -1 ∧ ∀ i : Nat, i < T → x ≠ nI i)) ∧ u = (I, L, A, Q, G, J)) (xB (dC, dI) (tysA cs) (va_A (wTape h cs I L A Q G J) sz) (fun u : CS => wTape h cs u.1 u.2.1 u.2.2.1 u.2.2.2.1 u.2.2.2.2.1 u.2.2.2.2.2)) (va_A (wTape h cs I L A Q G J) sz)) 0 0 (va_A (wTape h cs I L A Q G J) sz) := by
  refine Met.ofW (cc := cX7_at) (maxL := 2) (ret := (some .int)) (by decide) rfl ?_
  intro p e s m args below meth c s₁ B hml hv
  obtain ⟨rfl, hsz, hP, hK, hD0, hN⟩ := hv
  have hx := B.exec
  have hb := B.bytes
  have hr := B.returns
  have hts := atoms_spec (ws := wsX7_at) B.pre
  have hown : s.vm.findClass RX7 = some m.cls := findClass_of_methodNamed B.named
  have hlocks := B.notSynchronized
  subst hsz
  have hD := hD0.self (sz := s.heap.size)
  generalize hAe : va_A (wTape h cs I L A Q G J) s.heap.size = A0 at hD ⊢
  have hA : ∀ q : Nat, s.heap.size ≤ q → A0 q := fun q h => by rw [← hAe]; exact Or.inr h
  have hl := lv_entry ([.ref (h 103), .int x]) (n := 2) (Nat.le_of_ble_eq_true rfl)
  rw [lg_entry_eq]
  generalize (lg_sl ([.ref (h 103), .int x]) ++ List.replicate (2 - (lg_sl ([.ref (h 103), .int x])).length) Slot.unset).toArray = ls at hl ⊢
  have hl : lv_has ls 2 [(0, .ref (h 103)), (1, .int x)] := hl
  generalize hH : s.heap = H at hP ⊢
  have hS : va_S A0 s.heap H [] := by rw [← hH]; exact va_S.rf
  have hinX7 : ∀ w ∈ wsX70, w ∈ wsX7_at := by decide +kernel
  refine lv_iload_n hx hb dX7_at_0 rfl (lv_at hl 1 rfl) ?_
  refine lv_if_lt (tgt := 21) hx hb dX7_at_1 (by decide) (fun c_1_0 => ?_) (fun c_1_0 => ?_)
  · skip
    refine lv_iconst (v := (-1)) hx hb dX7_at_21 (by decide) ?_
    exact xr_i (v := (-1)) hx hb hr hlocks hK hS dX7_at_22 (I, L, A, Q, G, J) ⟨(Or.inr ⟨rfl, by first | exact rg_no1 (by omega) (by assumption) | exact rg_no2 (by omega) (by assumption)⟩), rfl⟩ hP hD
  · skip
    refine lv_iload_n hx hb dX7_at_4 rfl (lv_at hl 1 rfl) ?_
    refine lv_aload_n hx hb dX7_at_5 rfl (lv_at hl 0 rfl) ?_
    refine va_get (D := (dC, dI)) (ci := 7) (v := .int (I 151)) (C := RX7) (T := TX7) (N := 2) hx hb hts hinX7 hown hK hP 0 rfl rfl 1 (by decide) (hts (.fieldLink RX7 13 "MixedWords$Tape" "length" "I") (by decide +kernel)) (fun _ h9 => h9) rfl dX7_at_6 ?_
    refine xt_i (y := nI T) (hT) ?_
    refine lv_icmp_ge (tgt := 21) hx hb dX7_at_9 (by decide) (fun c_9_1 => ?_) (fun c_9_1 => ?_)
    · skip
      refine lv_iconst (v := (-1)) hx hb dX7_at_21 (by decide) ?_
      exact xr_i (v := (-1)) hx hb hr hlocks hK hS dX7_at_22 (I, L, A, Q, G, J) ⟨(Or.inr ⟨rfl, by first | exact rg_no1 (by omega) (by assumption) | exact rg_no2 (by omega) (by assumption)⟩), rfl⟩ hP hD
    · skip
      obtain ⟨ix, hix, hixe⟩ := rg_yes (by omega) (by assumption) c_9_1
      rw [hixe] at hl
      refine lv_aload_n hx hb dX7_at_12 rfl (lv_at hl 0 rfl) ?_
      refine va_get (D := (dC, dI)) (ci := 7) (v := .ref (h 150)) (C := RX7) (T := TX7) (N := 2) hx hb hts hinX7 hown hK hP 0 rfl rfl 0 (by decide) (hts (.fieldLink RX7 9 "MixedWords$Tape" "bytes" "[B") (by decide +kernel)) (fun _ h9 => h9) rfl dX7_at_13 ?_
      refine lv_iload_n hx hb dX7_at_16 rfl (lv_at hl 1 rfl) ?_
      refine xa_bald hx hb hK hP 1 2 rfl rfl (by omega) (by decide) dX7_at_17 ?_
      refine lv_goto (tgt := 22) hx hb dX7_at_18 (by decide) ?_
      exact xr_i (v := (A 150 ix)) hx hb hr hlocks hK hS dX7_at_22 (I, L, A, Q, G, J) ⟨(Or.inl ⟨ix, hix, hixe, rfl⟩), rfl⟩ hP hD
theorem bdX7_clear_0 : (decode cX7_clear 0 = .ok (.aload_n 0, 1)) ∧ (decode cX7_clear 1 = .ok (.iconst 0, 1)) ∧ (decode cX7_clear 2 = .ok (.putfield 13, 3)) ∧ (decode cX7_clear 5 = .ok (.return_, 1)) := by decide +kernel
theorem dX7_clear_0 : decode cX7_clear 0 = .ok (.aload_n 0, 1) := bdX7_clear_0.1
theorem dX7_clear_1 : decode cX7_clear 1 = .ok (.iconst 0, 1) := bdX7_clear_0.2.1
theorem dX7_clear_2 : decode cX7_clear 2 = .ok (.putfield 13, 3) := bdX7_clear_0.2.2.1
theorem dX7_clear_5 : decode cX7_clear 5 = .ok (.return_, 1) := bdX7_clear_0.2.2.2
set_option maxHeartbeats 4000000 in
set_option maxRecDepth 100000 in
theorem k_X7_clear (l : Launch) (dC : Nat → ClassId) (dI : Nat → Nat → Nat) (h : Nat → Nat) (cs : Nat → ClassId) (sz : Nat) (I : Nat → Int32) (L : Nat → Int64) (A : Nat → Nat → Int32) (Q : Nat → Nat → Int64) (G : Nat → Nat → Nat → Int32) (J : Nat → Nat → Nat → Int64) : Met l yX7_clear wsX7_clear ({ frames := 0, cells := 0, slots := 0, locals := 0 }) (va_Pc [.ref (h 103)] (xPre (dC, dI) (wTape h cs I L A Q G J) (tysA cs) sz)) (va_Qv (fun (u : CS) => ∃ x151 : Int32, (x151 = nI 0) ∧ u = ((va_up I 151 x151), L, A, Q, G, J)) (xB (dC, dI) (tysA cs) (va_A (wTape h cs I L A Q G J) sz) (fun u : CS => wTape h cs u.1 u.2.1 u.2.2.1 u.2.2.2.1 u.2.2.2.2.1 u.2.2.2.2.2)) (va_A (wTape h cs I L A Q G J) sz)) 0 0 (va_A (wTape h cs I L A Q G J) sz) := by
  refine Met.ofW (cc := cX7_clear) (maxL := 1) (ret := none) (by decide) rfl ?_
  intro p e s m args below meth c s₁ B hml hv
  obtain ⟨rfl, hsz, hP, hK, hD0, hN⟩ := hv
  have hx := B.exec
  have hb := B.bytes
  have hr := B.returns
  have hts := atoms_spec (ws := wsX7_clear) B.pre
  have hown : s.vm.findClass RX7 = some m.cls := findClass_of_methodNamed B.named
  have hlocks := B.notSynchronized
  subst hsz
  have hD := hD0.self (sz := s.heap.size)
  generalize hAe : va_A (wTape h cs I L A Q G J) s.heap.size = A0 at hD ⊢
  have hA : ∀ q : Nat, s.heap.size ≤ q → A0 q := fun q h => by rw [← hAe]; exact Or.inr h
  have hl := lv_entry ([.ref (h 103)]) (n := 1) (Nat.le_of_ble_eq_true rfl)
  rw [lg_entry_eq]
  generalize (lg_sl ([.ref (h 103)]) ++ List.replicate (1 - (lg_sl ([.ref (h 103)])).length) Slot.unset).toArray = ls at hl ⊢
  have hl : lv_has ls 1 [(0, .ref (h 103))] := hl
  generalize hH : s.heap = H at hP ⊢
  have hS : va_S A0 s.heap H [] := by rw [← hH]; exact va_S.rf
  have hinX7 : ∀ w ∈ wsX70, w ∈ wsX7_clear := by decide +kernel
  refine lv_aload_n hx hb dX7_clear_0 rfl (lv_at hl 0 rfl) ?_
  refine lv_iconst (v := nI 0) hx hb dX7_clear_1 (by decide) ?_
  refine va_put (D := (dC, dI)) (ci := 7) (v := .int (nI 0)) (ty := .int) (C := RX7) (T := TX7) (N := 2) hx hb hts hinX7 tyX7 tyX7_ok nmX7 hown hK hP hD hS 0 rfl rfl 1 (by decide) (hts (.fieldLink RX7 13 "MixedWords$Tape" "length" "I") (by decide +kernel)) (fun _ h9 => h9) rfl (by decide +kernel) rfl rfl (Nat.le_of_ble_eq_true rfl) dX7_clear_2 (fun H locs hP hD hS => ?_)
  have hP : va_P (dC, dI) vwCl (wTape h cs (va_up I 151 (nI 0)) L A Q G J) H := hP
  have hD : va_D A0 (wTape h cs (va_up I 151 (nI 0)) L A Q G J) := hD
  exact xr_v hx hb hr hlocks hK hS dX7_clear_5 ((va_up I 151 (nI 0)), L, A, Q, G, J) ⟨(nI 0), rfl, rfl⟩ hP hD
set_option maxRecDepth 20000 in
theorem ggX8_indexOf_X3_bitsOfLetter : GoodIn wsX8_indexOf wsX3_bitsOfLetter := goodIn_r _ [8, 9, 16, 17, 18, 19, 20, 21] rfl (by decide +kernel)
set_option maxRecDepth 20000 in
theorem gX8_indexOf_X3_bitsOfLetter : GoodIn wsX8_indexOf (wsV RX8 54 RX3 yX3_bitsOfLetter wsX3_bitsOfLetter) := goodIn_app (goodIn_of _ (by decide +kernel)) ggX8_indexOf_X3_bitsOfLetter
theorem bdX8_indexOf_0 : (decode cX8_indexOf 0 = .ok (.iload_n 1, 1)) ∧ (decode cX8_indexOf 1 = .ok (.aload_n 0, 1)) ∧ (decode cX8_indexOf 2 = .ok (.getfield 28, 3)) ∧ (decode cX8_indexOf 5 = .ok (.invokevirtual 54, 3)) ∧ (decode cX8_indexOf 8 = .ok (.aload_n 0, 1)) ∧ (decode cX8_indexOf 9 = .ok (.getfield 28, 3)) ∧ (decode cX8_indexOf 12 = .ok (.getfield 40, 3)) ∧ (decode cX8_indexOf 15 = .ok (.iconst 1, 1)) ∧ (decode cX8_indexOf 16 = .ok (.isub, 1)) ∧ (decode cX8_indexOf 17 = .ok (.iload_n 2, 1)) ∧ (decode cX8_indexOf 18 = .ok (.isub, 1)) ∧ (decode cX8_indexOf 19 = .ok (.imul, 1)) ∧ (decode cX8_indexOf 20 = .ok (.ishr, 1)) ∧ (decode cX8_indexOf 21 = .ok (.aload_n 0, 1)) ∧ (decode cX8_indexOf 22 = .ok (.getfield 28, 3)) ∧ (decode cX8_indexOf 25 = .ok (.getfield 51, 3)) := by decide +kernel
theorem dX8_indexOf_0 : decode cX8_indexOf 0 = .ok (.iload_n 1, 1) := bdX8_indexOf_0.1
theorem dX8_indexOf_1 : decode cX8_indexOf 1 = .ok (.aload_n 0, 1) := bdX8_indexOf_0.2.1
theorem dX8_indexOf_2 : decode cX8_indexOf 2 = .ok (.getfield 28, 3) := bdX8_indexOf_0.2.2.1
theorem dX8_indexOf_5 : decode cX8_indexOf 5 = .ok (.invokevirtual 54, 3) := bdX8_indexOf_0.2.2.2.1
theorem dX8_indexOf_8 : decode cX8_indexOf 8 = .ok (.aload_n 0, 1) := bdX8_indexOf_0.2.2.2.2.1
theorem dX8_indexOf_9 : decode cX8_indexOf 9 = .ok (.getfield 28, 3) := bdX8_indexOf_0.2.2.2.2.2.1
theorem dX8_indexOf_12 : decode cX8_indexOf 12 = .ok (.getfield 40, 3) := bdX8_indexOf_0.2.2.2.2.2.2.1
theorem dX8_indexOf_15 : decode cX8_indexOf 15 = .ok (.iconst 1, 1) := bdX8_indexOf_0.2.2.2.2.2.2.2.1
theorem dX8_indexOf_16 : decode cX8_indexOf 16 = .ok (.isub, 1) := bdX8_indexOf_0.2.2.2.2.2.2.2.2.1
theorem dX8_indexOf_17 : decode cX8_indexOf 17 = .ok (.iload_n 2, 1) := bdX8_indexOf_0.2.2.2.2.2.2.2.2.2.1
theorem dX8_indexOf_18 : decode cX8_indexOf 18 = .ok (.isub, 1) := bdX8_indexOf_0.2.2.2.2.2.2.2.2.2.2.1
theorem dX8_indexOf_19 : decode cX8_indexOf 19 = .ok (.imul, 1) := bdX8_indexOf_0.2.2.2.2.2.2.2.2.2.2.2.1
theorem dX8_indexOf_20 : decode cX8_indexOf 20 = .ok (.ishr, 1) := bdX8_indexOf_0.2.2.2.2.2.2.2.2.2.2.2.2.1
theorem dX8_indexOf_21 : decode cX8_indexOf 21 = .ok (.aload_n 0, 1) := bdX8_indexOf_0.2.2.2.2.2.2.2.2.2.2.2.2.2.1
theorem dX8_indexOf_22 : decode cX8_indexOf 22 = .ok (.getfield 28, 3) := bdX8_indexOf_0.2.2.2.2.2.2.2.2.2.2.2.2.2.2.1
theorem dX8_indexOf_25 : decode cX8_indexOf 25 = .ok (.getfield 51, 3) := bdX8_indexOf_0.2.2.2.2.2.2.2.2.2.2.2.2.2.2.2
theorem bdX8_indexOf_28 : (decode cX8_indexOf 28 = .ok (.iconst 1, 1)) ∧ (decode cX8_indexOf 29 = .ok (.isub, 1)) ∧ (decode cX8_indexOf 30 = .ok (.iand, 1)) ∧ (decode cX8_indexOf 31 = .ok (.ireturn, 1)) := by decide +kernel
theorem dX8_indexOf_28 : decode cX8_indexOf 28 = .ok (.iconst 1, 1) := bdX8_indexOf_28.1
theorem dX8_indexOf_29 : decode cX8_indexOf 29 = .ok (.isub, 1) := bdX8_indexOf_28.2.1
theorem dX8_indexOf_30 : decode cX8_indexOf 30 = .ok (.iand, 1) := bdX8_indexOf_28.2.2.1
theorem dX8_indexOf_31 : decode cX8_indexOf 31 = .ok (.ireturn, 1) := bdX8_indexOf_28.2.2.2
set_option maxHeartbeats 4000000 in
set_option maxRecDepth 100000 in
theorem k_X8_indexOf (l : Launch) (dC : Nat → ClassId) (dI : Nat → Nat → Nat) (h : Nat → Nat) (cs : Nat → ClassId) (sz : Nat) (I : Nat → Int32) (L : Nat → Int64) (A : Nat → Nat → Int32) (Q : Nat → Nat → Int64) (G : Nat → Nat → Nat → Int32) (J : Nat → Nat → Nat → Int64) (w cl M a : Nat) (hw : w ≤ 256) (hcl : cl < M) (hM : I 121 = nI M) (hM1 : 1 ≤ M) (hM4 : M ≤ 4) (ha : I 122 = nI a) (ha2 : a = 2 ∨ a = 4) : Met l yX8_indexOf wsX8_indexOf ({ frames := 1, cells := 0, slots := 0, locals := 20 }) (va_Pc [.ref (h 105), .int (nI w), .int (nI cl)] (xPre (dC, dI) (wWords h cs I L A Q G J) (tysA cs) sz)) (va_Qi (fun (r : Int32) (u : CS) => (r = nI (w / a ^ (M - 1 - cl) % a)) ∧ u = (I, L, A, Q, G, J)) (xB (dC, dI) (tysA cs) (va_A (wWords h cs I L A Q G J) sz) (fun u : CS => wWords h cs u.1 u.2.1 u.2.2.1 u.2.2.2.1 u.2.2.2.2.1 u.2.2.2.2.2)) (va_A (wWords h cs I L A Q G J) sz)) 0 0 (va_A (wWords h cs I L A Q G J) sz) := by
  refine Met.ofW (cc := cX8_indexOf) (maxL := 3) (ret := (some .int)) (by decide) rfl ?_
  intro p e s m args below meth c s₁ B hml hv
  obtain ⟨rfl, hsz, hP, hK, hD0, hN⟩ := hv
  have hx := B.exec
  have hb := B.bytes
  have hr := B.returns
  have hts := atoms_spec (ws := wsX8_indexOf) B.pre
  have hown : s.vm.findClass RX8 = some m.cls := findClass_of_methodNamed B.named
  have hlocks := B.notSynchronized
  subst hsz
  have hD := hD0.self (sz := s.heap.size)
  generalize hAe : va_A (wWords h cs I L A Q G J) s.heap.size = A0 at hD ⊢
  have hA : ∀ q : Nat, s.heap.size ≤ q → A0 q := fun q h => by rw [← hAe]; exact Or.inr h
  have hl := lv_entry ([.ref (h 105), .int (nI w), .int (nI cl)]) (n := 3) (Nat.le_of_ble_eq_true rfl)
  rw [lg_entry_eq]
  generalize (lg_sl ([.ref (h 105), .int (nI w), .int (nI cl)]) ++ List.replicate (3 - (lg_sl ([.ref (h 105), .int (nI w), .int (nI cl)])).length) Slot.unset).toArray = ls at hl ⊢
  have hl : lv_has ls 3 [(0, .ref (h 105)), (1, .int (nI w)), (2, .int (nI cl))] := hl
  generalize hH : s.heap = H at hP ⊢
  have hS : va_S A0 s.heap H [] := by rw [← hH]; exact va_S.rf
  have hinX8 : ∀ w ∈ wsX80, w ∈ wsX8_indexOf := by decide +kernel
  have hinX3 : ∀ w ∈ wsX30, w ∈ wsX8_indexOf := by decide +kernel
  refine lv_iload_n hx hb dX8_indexOf_0 rfl (lv_at hl 1 rfl) ?_
  refine lv_aload_n hx hb dX8_indexOf_1 rfl (lv_at hl 0 rfl) ?_
  refine va_get (D := (dC, dI)) (ci := 8) (v := .ref (h 101)) (C := RX8) (T := TX8) (N := 6) hx hb hts hinX8 hown hK hP 0 rfl rfl 0 (by decide) (hts (.fieldLink RX8 28 "MixedWords$Words" "mix" "LMixedWords$Mix;") (by decide +kernel)) (fun _ h9 => h9) rfl dX8_indexOf_2 ?_
  refine xj_i (wc := (wMix h cs I L A Q G J)) (wr := [(h 105, .inr (8, [.ref (h 101), .ref (h 170), .ref (h 171), .ref (h 172), .int (I 173), .int (I 174)])), (h 170, .inl (cs 0, 256, .inl (A 170))), (h 171, .inl (cs 0, 256, .inl (A 171))), (h 172, .inl (cs 0, 256, .inl (A 172)))]) hP hD hS hA [4, 5, 6, 7, 8, 9, 10, 11] [0, 1, 2, 3] rfl rfl (by decide +kernel) (by decide +kernel) (va_runV (As := []) (rest := [.int (nI w)]) ⟨hx, hb, hml, hown, hts⟩ (k_X3_bitsOfLetter l dC dI h cs H.size I L A Q G J a ha (by first | assumption | omega | exact ha2)) (cwV 0 hts gX8_indexOf_X3_bitsOfLetter rfl rfl rfl (by decide +kernel) ⟨Nat.le_of_ble_eq_true rfl, Nat.le_of_ble_eq_true rfl⟩) (xpV (wc := (wMix h cs I L A Q G J)) hP hD hK hN [4, 5, 6, 7, 8, 9, 10, 11] rfl (by decide) 4 (ci := 3) rfl rfl _) rfl rfl hl.1 rfl (lv_room (Nat.le_of_ble_eq_true rfl)) dX8_indexOf_5 ⟨Nat.zero_le _, Nat.zero_le _⟩) (fun r_2 u_1 H locs hw hP hD hS => ?_)
  obtain ⟨hf_3, rfl⟩ := hw
  have hP : va_P (dC, dI) vwCl (wWords h cs I L A Q G J) H := hP
  have hD : va_D A0 (wWords h cs I L A Q G J) := hD
  obtain rfl := hf_3
  refine lv_aload_n hx hb dX8_indexOf_8 rfl (lv_at hl 0 rfl) ?_
  refine va_get (D := (dC, dI)) (ci := 8) (v := .ref (h 101)) (C := RX8) (T := TX8) (N := 6) hx hb hts hinX8 hown hK hP 0 rfl rfl 0 (by decide) (hts (.fieldLink RX8 28 "MixedWords$Words" "mix" "LMixedWords$Mix;") (by decide +kernel)) (fun _ h9 => h9) rfl dX8_indexOf_9 ?_
  refine va_get (D := (dC, dI)) (ci := 3) (v := .int (I 121)) (C := RX3) (T := TX3) (N := 6) hx hb hts hinX3 hown hK hP 4 rfl rfl 1 (by decide) (hts (.fieldLink RX8 40 "MixedWords$Mix" "width" "I") (by decide +kernel)) (fun _ h9 => h9) rfl dX8_indexOf_12 ?_
  refine xt_i (y := nI M) (hM) ?_
  refine lv_iconst (v := nI 1) hx hb dX8_indexOf_15 (by decide) ?_
  refine lv_isub hx hb dX8_indexOf_16 ?_
  refine xt_i (y := nI (M - 1)) (pk_sub (by omega)) ?_
  refine lv_iload_n hx hb dX8_indexOf_17 rfl (lv_at hl 2 rfl) ?_
  refine lv_isub hx hb dX8_indexOf_18 ?_
  refine xt_i (y := nI ((M - 1) - cl)) (pk_sub (by omega)) ?_
  refine lv_imul hx hb dX8_indexOf_19 ?_
  refine xt_i (y := nI ((a / 2) * ((M - 1) - cl))) (pk_mul _ _) ?_
  refine lv_ishr hx hb dX8_indexOf_20 ?_
  refine lv_aload_n hx hb dX8_indexOf_21 rfl (lv_at hl 0 rfl) ?_
  refine va_get (D := (dC, dI)) (ci := 8) (v := .ref (h 101)) (C := RX8) (T := TX8) (N := 6) hx hb hts hinX8 hown hK hP 0 rfl rfl 0 (by decide) (hts (.fieldLink RX8 28 "MixedWords$Words" "mix" "LMixedWords$Mix;") (by decide +kernel)) (fun _ h9 => h9) rfl dX8_indexOf_22 ?_
  refine va_get (D := (dC, dI)) (ci := 3) (v := .int (I 122)) (C := RX3) (T := TX3) (N := 6) hx hb hts hinX3 hown hK hP 4 rfl rfl 2 (by decide) (hts (.fieldLink RX8 51 "MixedWords$Mix" "letterCount" "I") (by decide +kernel)) (fun _ h9 => h9) rfl dX8_indexOf_25 ?_
  refine xt_i (y := nI a) (ha) ?_
  refine lv_iconst (v := nI 1) hx hb dX8_indexOf_28 (by decide) ?_
  refine lv_isub hx hb dX8_indexOf_29 ?_
  refine xt_i (y := nI (a - 1)) (pk_sub (by omega)) ?_
  refine lv_iand hx hb dX8_indexOf_30 ?_
  refine xt_i (y := nI (w / a ^ (M - 1 - cl) % a)) (ix_eq hw ha2 (by omega)) ?_
  exact xr_i (v := (nI (w / a ^ (M - 1 - cl) % a))) hx hb hr hlocks hK hS dX8_indexOf_31 (I, L, A, Q, G, J) ⟨rfl, rfl⟩ hP hD
set_option maxRecDepth 20000 in
theorem ggX8_offOf_X8_indexOf : GoodIn wsX8_offOf wsX8_indexOf := goodIn_r _ [11, 1, 4, 6, 12, 13, 14, 15, 16, 17, 18, 19, 20, 21, 22, 23, 24, 25, 26, 27, 28, 29] rfl (by decide +kernel)
set_option maxRecDepth 20000 in
theorem gX8_offOf_X8_indexOf : GoodIn wsX8_offOf (wsV RX8 47 RX8 yX8_indexOf wsX8_indexOf) := goodIn_app (goodIn_of _ (by decide +kernel)) ggX8_offOf_X8_indexOf
theorem bdX8_offOf_0 : (decode cX8_offOf 0 = .ok (.iconst 0, 1)) ∧ (decode cX8_offOf 1 = .ok (.istore_n 2, 1)) ∧ (decode cX8_offOf 2 = .ok (.iconst 0, 1)) ∧ (decode cX8_offOf 3 = .ok (.istore_n 3, 1)) ∧ (decode cX8_offOf 4 = .ok (.iload_n 3, 1)) ∧ (decode cX8_offOf 5 = .ok (.aload_n 0, 1)) ∧ (decode cX8_offOf 6 = .ok (.getfield 28, 3)) ∧ (decode cX8_offOf 9 = .ok (.getfield 32, 3)) ∧ (decode cX8_offOf 12 = .ok (.if_icmp .ge 86, 3)) ∧ (decode cX8_offOf 15 = .ok (.aload_n 0, 1)) ∧ (decode cX8_offOf 16 = .ok (.getfield 28, 3)) ∧ (decode cX8_offOf 19 = .ok (.getfield 37, 3)) ∧ (decode cX8_offOf 22 = .ok (.iload_n 3, 1)) ∧ (decode cX8_offOf 23 = .ok (.iaload, 1)) ∧ (decode cX8_offOf 24 = .ok (.istore 4, 2)) ∧ (decode cX8_offOf 26 = .ok (.iconst 0, 1)) := by decide +kernel
theorem dX8_offOf_0 : decode cX8_offOf 0 = .ok (.iconst 0, 1) := bdX8_offOf_0.1
theorem dX8_offOf_1 : decode cX8_offOf 1 = .ok (.istore_n 2, 1) := bdX8_offOf_0.2.1
theorem dX8_offOf_2 : decode cX8_offOf 2 = .ok (.iconst 0, 1) := bdX8_offOf_0.2.2.1
theorem dX8_offOf_3 : decode cX8_offOf 3 = .ok (.istore_n 3, 1) := bdX8_offOf_0.2.2.2.1
theorem dX8_offOf_4 : decode cX8_offOf 4 = .ok (.iload_n 3, 1) := bdX8_offOf_0.2.2.2.2.1
theorem dX8_offOf_5 : decode cX8_offOf 5 = .ok (.aload_n 0, 1) := bdX8_offOf_0.2.2.2.2.2.1
theorem dX8_offOf_6 : decode cX8_offOf 6 = .ok (.getfield 28, 3) := bdX8_offOf_0.2.2.2.2.2.2.1
theorem dX8_offOf_9 : decode cX8_offOf 9 = .ok (.getfield 32, 3) := bdX8_offOf_0.2.2.2.2.2.2.2.1
theorem dX8_offOf_12 : decode cX8_offOf 12 = .ok (.if_icmp .ge 86, 3) := bdX8_offOf_0.2.2.2.2.2.2.2.2.1
theorem dX8_offOf_15 : decode cX8_offOf 15 = .ok (.aload_n 0, 1) := bdX8_offOf_0.2.2.2.2.2.2.2.2.2.1
theorem dX8_offOf_16 : decode cX8_offOf 16 = .ok (.getfield 28, 3) := bdX8_offOf_0.2.2.2.2.2.2.2.2.2.2.1
theorem dX8_offOf_19 : decode cX8_offOf 19 = .ok (.getfield 37, 3) := bdX8_offOf_0.2.2.2.2.2.2.2.2.2.2.2.1
theorem dX8_offOf_22 : decode cX8_offOf 22 = .ok (.iload_n 3, 1) := bdX8_offOf_0.2.2.2.2.2.2.2.2.2.2.2.2.1
theorem dX8_offOf_23 : decode cX8_offOf 23 = .ok (.iaload, 1) := bdX8_offOf_0.2.2.2.2.2.2.2.2.2.2.2.2.2.1
theorem dX8_offOf_24 : decode cX8_offOf 24 = .ok (.istore 4, 2) := bdX8_offOf_0.2.2.2.2.2.2.2.2.2.2.2.2.2.2.1
theorem dX8_offOf_26 : decode cX8_offOf 26 = .ok (.iconst 0, 1) := bdX8_offOf_0.2.2.2.2.2.2.2.2.2.2.2.2.2.2.2
theorem bdX8_offOf_27 : (decode cX8_offOf 27 = .ok (.istore 5, 2)) ∧ (decode cX8_offOf 29 = .ok (.iload 5, 2)) ∧ (decode cX8_offOf 31 = .ok (.aload_n 0, 1)) ∧ (decode cX8_offOf 32 = .ok (.getfield 28, 3)) ∧ (decode cX8_offOf 35 = .ok (.getfield 40, 3)) ∧ (decode cX8_offOf 38 = .ok (.if_icmp .ge 46, 3)) ∧ (decode cX8_offOf 41 = .ok (.iload 4, 2)) ∧ (decode cX8_offOf 43 = .ok (.aload_n 0, 1)) ∧ (decode cX8_offOf 44 = .ok (.getfield 28, 3)) ∧ (decode cX8_offOf 47 = .ok (.getfield 43, 3)) ∧ (decode cX8_offOf 50 = .ok (.iload_n 3, 1)) ∧ (decode cX8_offOf 51 = .ok (.aaload, 1)) ∧ (decode cX8_offOf 52 = .ok (.iload 5, 2)) ∧ (decode cX8_offOf 54 = .ok (.iaload, 1)) ∧ (decode cX8_offOf 55 = .ok (.iconst 2, 1)) ∧ (decode cX8_offOf 56 = .ok (.aload_n 0, 1)) := by decide +kernel
theorem dX8_offOf_27 : decode cX8_offOf 27 = .ok (.istore 5, 2) := bdX8_offOf_27.1
theorem dX8_offOf_29 : decode cX8_offOf 29 = .ok (.iload 5, 2) := bdX8_offOf_27.2.1
theorem dX8_offOf_31 : decode cX8_offOf 31 = .ok (.aload_n 0, 1) := bdX8_offOf_27.2.2.1
theorem dX8_offOf_32 : decode cX8_offOf 32 = .ok (.getfield 28, 3) := bdX8_offOf_27.2.2.2.1
theorem dX8_offOf_35 : decode cX8_offOf 35 = .ok (.getfield 40, 3) := bdX8_offOf_27.2.2.2.2.1
theorem dX8_offOf_38 : decode cX8_offOf 38 = .ok (.if_icmp .ge 46, 3) := bdX8_offOf_27.2.2.2.2.2.1
theorem dX8_offOf_41 : decode cX8_offOf 41 = .ok (.iload 4, 2) := bdX8_offOf_27.2.2.2.2.2.2.1
theorem dX8_offOf_43 : decode cX8_offOf 43 = .ok (.aload_n 0, 1) := bdX8_offOf_27.2.2.2.2.2.2.2.1
theorem dX8_offOf_44 : decode cX8_offOf 44 = .ok (.getfield 28, 3) := bdX8_offOf_27.2.2.2.2.2.2.2.2.1
theorem dX8_offOf_47 : decode cX8_offOf 47 = .ok (.getfield 43, 3) := bdX8_offOf_27.2.2.2.2.2.2.2.2.2.1
theorem dX8_offOf_50 : decode cX8_offOf 50 = .ok (.iload_n 3, 1) := bdX8_offOf_27.2.2.2.2.2.2.2.2.2.2.1
theorem dX8_offOf_51 : decode cX8_offOf 51 = .ok (.aaload, 1) := bdX8_offOf_27.2.2.2.2.2.2.2.2.2.2.2.1
theorem dX8_offOf_52 : decode cX8_offOf 52 = .ok (.iload 5, 2) := bdX8_offOf_27.2.2.2.2.2.2.2.2.2.2.2.2.1
theorem dX8_offOf_54 : decode cX8_offOf 54 = .ok (.iaload, 1) := bdX8_offOf_27.2.2.2.2.2.2.2.2.2.2.2.2.2.1
theorem dX8_offOf_55 : decode cX8_offOf 55 = .ok (.iconst 2, 1) := bdX8_offOf_27.2.2.2.2.2.2.2.2.2.2.2.2.2.2.1
theorem dX8_offOf_56 : decode cX8_offOf 56 = .ok (.aload_n 0, 1) := bdX8_offOf_27.2.2.2.2.2.2.2.2.2.2.2.2.2.2.2
theorem bdX8_offOf_57 : (decode cX8_offOf 57 = .ok (.iload_n 1, 1)) ∧ (decode cX8_offOf 58 = .ok (.iload 5, 2)) ∧ (decode cX8_offOf 60 = .ok (.invokevirtual 47, 3)) ∧ (decode cX8_offOf 63 = .ok (.imul, 1)) ∧ (decode cX8_offOf 64 = .ok (.aload_n 0, 1)) ∧ (decode cX8_offOf 65 = .ok (.getfield 28, 3)) ∧ (decode cX8_offOf 68 = .ok (.getfield 51, 3)) ∧ (decode cX8_offOf 71 = .ok (.isub, 1)) ∧ (decode cX8_offOf 72 = .ok (.iconst 1, 1)) ∧ (decode cX8_offOf 73 = .ok (.iadd, 1)) ∧ (decode cX8_offOf 74 = .ok (.imul, 1)) ∧ (decode cX8_offOf 75 = .ok (.isub, 1)) ∧ (decode cX8_offOf 76 = .ok (.istore 4, 2)) ∧ (decode cX8_offOf 78 = .ok (.iinc 5 1, 3)) ∧ (decode cX8_offOf 81 = .ok (.goto (-52), 3)) ∧ (decode cX8_offOf 84 = .ok (.iload_n 2, 1)) := by decide +kernel
theorem dX8_offOf_57 : decode cX8_offOf 57 = .ok (.iload_n 1, 1) := bdX8_offOf_57.1
theorem dX8_offOf_58 : decode cX8_offOf 58 = .ok (.iload 5, 2) := bdX8_offOf_57.2.1
theorem dX8_offOf_60 : decode cX8_offOf 60 = .ok (.invokevirtual 47, 3) := bdX8_offOf_57.2.2.1
theorem dX8_offOf_63 : decode cX8_offOf 63 = .ok (.imul, 1) := bdX8_offOf_57.2.2.2.1
theorem dX8_offOf_64 : decode cX8_offOf 64 = .ok (.aload_n 0, 1) := bdX8_offOf_57.2.2.2.2.1
theorem dX8_offOf_65 : decode cX8_offOf 65 = .ok (.getfield 28, 3) := bdX8_offOf_57.2.2.2.2.2.1
theorem dX8_offOf_68 : decode cX8_offOf 68 = .ok (.getfield 51, 3) := bdX8_offOf_57.2.2.2.2.2.2.1
theorem dX8_offOf_71 : decode cX8_offOf 71 = .ok (.isub, 1) := bdX8_offOf_57.2.2.2.2.2.2.2.1
theorem dX8_offOf_72 : decode cX8_offOf 72 = .ok (.iconst 1, 1) := bdX8_offOf_57.2.2.2.2.2.2.2.2.1
theorem dX8_offOf_73 : decode cX8_offOf 73 = .ok (.iadd, 1) := bdX8_offOf_57.2.2.2.2.2.2.2.2.2.1
theorem dX8_offOf_74 : decode cX8_offOf 74 = .ok (.imul, 1) := bdX8_offOf_57.2.2.2.2.2.2.2.2.2.2.1
theorem dX8_offOf_75 : decode cX8_offOf 75 = .ok (.isub, 1) := bdX8_offOf_57.2.2.2.2.2.2.2.2.2.2.2.1
theorem dX8_offOf_76 : decode cX8_offOf 76 = .ok (.istore 4, 2) := bdX8_offOf_57.2.2.2.2.2.2.2.2.2.2.2.2.1
theorem dX8_offOf_78 : decode cX8_offOf 78 = .ok (.iinc 5 1, 3) := bdX8_offOf_57.2.2.2.2.2.2.2.2.2.2.2.2.2.1
theorem dX8_offOf_81 : decode cX8_offOf 81 = .ok (.goto (-52), 3) := bdX8_offOf_57.2.2.2.2.2.2.2.2.2.2.2.2.2.2.1
theorem dX8_offOf_84 : decode cX8_offOf 84 = .ok (.iload_n 2, 1) := bdX8_offOf_57.2.2.2.2.2.2.2.2.2.2.2.2.2.2.2
theorem bdX8_offOf_85 : (decode cX8_offOf 85 = .ok (.iload 4, 2)) ∧ (decode cX8_offOf 87 = .ok (.iload 4, 2)) ∧ (decode cX8_offOf 89 = .ok (.imul, 1)) ∧ (decode cX8_offOf 90 = .ok (.iadd, 1)) ∧ (decode cX8_offOf 91 = .ok (.istore_n 2, 1)) ∧ (decode cX8_offOf 92 = .ok (.iinc 3 1, 3)) ∧ (decode cX8_offOf 95 = .ok (.goto (-91), 3)) ∧ (decode cX8_offOf 98 = .ok (.iload_n 2, 1)) ∧ (decode cX8_offOf 99 = .ok (.ireturn, 1)) := by decide +kernel
theorem dX8_offOf_85 : decode cX8_offOf 85 = .ok (.iload 4, 2) := bdX8_offOf_85.1
theorem dX8_offOf_87 : decode cX8_offOf 87 = .ok (.iload 4, 2) := bdX8_offOf_85.2.1
theorem dX8_offOf_89 : decode cX8_offOf 89 = .ok (.imul, 1) := bdX8_offOf_85.2.2.1
theorem dX8_offOf_90 : decode cX8_offOf 90 = .ok (.iadd, 1) := bdX8_offOf_85.2.2.2.1
theorem dX8_offOf_91 : decode cX8_offOf 91 = .ok (.istore_n 2, 1) := bdX8_offOf_85.2.2.2.2.1
theorem dX8_offOf_92 : decode cX8_offOf 92 = .ok (.iinc 3 1, 3) := bdX8_offOf_85.2.2.2.2.2.1
theorem dX8_offOf_95 : decode cX8_offOf 95 = .ok (.goto (-91), 3) := bdX8_offOf_85.2.2.2.2.2.2.1
theorem dX8_offOf_98 : decode cX8_offOf 98 = .ok (.iload_n 2, 1) := bdX8_offOf_85.2.2.2.2.2.2.2.1
theorem dX8_offOf_99 : decode cX8_offOf 99 = .ok (.ireturn, 1) := bdX8_offOf_85.2.2.2.2.2.2.2.2
set_option maxHeartbeats 4000000 in
set_option maxRecDepth 100000 in
theorem k_X8_offOf (l : Launch) (dC : Nat → ClassId) (dI : Nat → Nat → Nat) (h : Nat → Nat) (cs : Nat → ClassId) (sz : Nat) (I : Nat → Int32) (L : Nat → Int64) (A : Nat → Nat → Int32) (Q : Nat → Nat → Int64) (G : Nat → Nat → Nat → Int32) (J : Nat → Nat → Nat → Int64) (w R M a : Nat) (hw : w ≤ 256) (hR : I 120 = nI R) (hR1 : 1 ≤ R) (hR5 : R ≤ 5) (hM : I 121 = nI M) (hM1 : 1 ≤ M) (hM4 : M ≤ 4) (ha : I 122 = nI a) (ha2 : a = 2 ∨ a = 4) : Met l yX8_offOf wsX8_offOf ({ frames := 2, cells := 0, slots := 0, locals := 42 }) (va_Pc [.ref (h 105), .int (nI w)] (xPre (dC, dI) (wWords h cs I L A Q G J) (tysA cs) sz)) (va_Qi (fun (r : Int32) (u : CS) => (r = offC (A 136) (G 0) a M w R) ∧ u = (I, L, A, Q, G, J)) (xB (dC, dI) (tysA cs) (va_A (wWords h cs I L A Q G J) sz) (fun u : CS => wWords h cs u.1 u.2.1 u.2.2.1 u.2.2.2.1 u.2.2.2.2.1 u.2.2.2.2.2)) (va_A (wWords h cs I L A Q G J) sz)) 0 0 (va_A (wWords h cs I L A Q G J) sz) := by
  refine Met.ofW (cc := cX8_offOf) (maxL := 6) (ret := (some .int)) (by decide) rfl ?_
  intro p e s m args below meth c s₁ B hml hv
  obtain ⟨rfl, hsz, hP, hK, hD0, hN⟩ := hv
  have hx := B.exec
  have hb := B.bytes
  have hr := B.returns
  have hts := atoms_spec (ws := wsX8_offOf) B.pre
  have hown : s.vm.findClass RX8 = some m.cls := findClass_of_methodNamed B.named
  have hlocks := B.notSynchronized
  subst hsz
  have hD := hD0.self (sz := s.heap.size)
  generalize hAe : va_A (wWords h cs I L A Q G J) s.heap.size = A0 at hD ⊢
  have hA : ∀ q : Nat, s.heap.size ≤ q → A0 q := fun q h => by rw [← hAe]; exact Or.inr h
  have hl := lv_entry ([.ref (h 105), .int (nI w)]) (n := 6) (Nat.le_of_ble_eq_true rfl)
  rw [lg_entry_eq]
  generalize (lg_sl ([.ref (h 105), .int (nI w)]) ++ List.replicate (6 - (lg_sl ([.ref (h 105), .int (nI w)])).length) Slot.unset).toArray = ls at hl ⊢
  have hl : lv_has ls 6 [(0, .ref (h 105)), (1, .int (nI w))] := hl
  generalize hH : s.heap = H at hP ⊢
  have hS : va_S A0 s.heap H [] := by rw [← hH]; exact va_S.rf
  have hinX8 : ∀ w ∈ wsX80, w ∈ wsX8_offOf := by decide +kernel
  have hinX3 : ∀ w ∈ wsX30, w ∈ wsX8_offOf := by decide +kernel
  refine lv_iconst (v := nI 0) hx hb dX8_offOf_0 (by decide) ?_
  refine lv_istore_n (lv' := [(2, .int (nI 0)), (0, .ref (h 105)), (1, .int (nI w))]) hx hb dX8_offOf_1 rfl hl (by decide) rfl (fun ls hl => ?_)
  refine lv_iconst (v := nI 0) hx hb dX8_offOf_2 (by decide) ?_
  refine lv_istore_n (lv' := [(3, .int (nI 0)), (2, .int (nI 0)), (0, .ref (h 105)), (1, .int (nI w))]) hx hb dX8_offOf_3 rfl hl (by decide) rfl (fun ls hl => ?_)
  have cut_4 : ∀ (nf : Nat) (k : Nat), (R - k) < nf → (k ≤ R) → ∀ (H : Heap) (locs : List Loc) (ls : Array Slot), va_P (dC, dI) vwCl (wWords h cs I L A Q G J) H → va_D A0 (wWords h cs I L A Q G J) → va_S A0 s.heap H locs → lv_has ls 6 [(0, .ref (h 105)), (1, .int (nI w)), (2, .int (offC (A 136) (G 0) a M w k)), (3, .int (nI k))] → W p l e (headSpec wsX8_offOf ({ frames := 2, cells := 0, slots := 0, locals := 42 })).room s m ([.ref (h 105), .int (nI w)] : List Value).toArray below meth c H locs 0 0 (MQ below (va_Qi (fun (r : Int32) (u : CS) => (r = offC (A 136) (G 0) a M w R) ∧ u = (I, L, A, Q, G, J)) (xB (dC, dI) (tysA cs) A0 (fun u : CS => wWords h cs u.1 u.2.1 u.2.2.1 u.2.2.2.1 u.2.2.2.2.1 u.2.2.2.2.2)) A0) ([.ref (h 105), .int (nI w)] : List Value).toArray s 0 0 A0) (F0 m 4 ls []) := by
    intro nf
    induction nf with
    | zero => intro k hm; exact absurd hm (Nat.not_lt_zero _)
    | succ nf ih_4 =>
      intro k hm_4 hk_4 H locs ls hP hD hS hl
      refine lv_iload_n hx hb dX8_offOf_4 rfl (lv_at hl 3 rfl) ?_
      refine lv_aload_n hx hb dX8_offOf_5 rfl (lv_at hl 0 rfl) ?_
      refine va_get (D := (dC, dI)) (ci := 8) (v := .ref (h 101)) (C := RX8) (T := TX8) (N := 6) hx hb hts hinX8 hown hK hP 0 rfl rfl 0 (by decide) (hts (.fieldLink RX8 28 "MixedWords$Words" "mix" "LMixedWords$Mix;") (by decide +kernel)) (fun _ h9 => h9) rfl dX8_offOf_6 ?_
      refine va_get (D := (dC, dI)) (ci := 3) (v := .int (I 120)) (C := RX3) (T := TX3) (N := 6) hx hb hts hinX3 hown hK hP 4 rfl rfl 0 (by decide) (hts (.fieldLink RX8 32 "MixedWords$Mix" "height" "I") (by decide +kernel)) (fun _ h9 => h9) rfl dX8_offOf_9 ?_
      refine xt_i (y := nI R) (hR) ?_
      refine xn_ge (tgt := 98) hx hb dX8_offOf_12 (by decide) (by omega) (by omega) (fun c_12_0 => ?_) (fun c_12_0 => ?_)
      · skip
        refine lv_iload_n hx hb dX8_offOf_98 rfl (lv_at hl 2 rfl) ?_
        exact xr_i (v := (offC (A 136) (G 0) a M w k)) hx hb hr hlocks hK hS dX8_offOf_99 (I, L, A, Q, G, J) ⟨(by rw [show R = k by omega]), rfl⟩ hP hD
      · skip
        refine lv_aload_n hx hb dX8_offOf_15 rfl (lv_at hl 0 rfl) ?_
        refine va_get (D := (dC, dI)) (ci := 8) (v := .ref (h 101)) (C := RX8) (T := TX8) (N := 6) hx hb hts hinX8 hown hK hP 0 rfl rfl 0 (by decide) (hts (.fieldLink RX8 28 "MixedWords$Words" "mix" "LMixedWords$Mix;") (by decide +kernel)) (fun _ h9 => h9) rfl dX8_offOf_16 ?_
        refine va_get (D := (dC, dI)) (ci := 3) (v := .ref (h 136)) (C := RX3) (T := TX3) (N := 6) hx hb hts hinX3 hown hK hP 4 rfl rfl 5 (by decide) (hts (.fieldLink RX8 37 "MixedWords$Mix" "heard" "[I") (by decide +kernel)) (fun _ h9 => h9) rfl dX8_offOf_19 ?_
        refine lv_iload_n hx hb dX8_offOf_22 rfl (lv_at hl 3 rfl) ?_
        refine xa_iald hx hb hK hP 11 0 rfl rfl (by omega) (by decide) dX8_offOf_23 ?_
        refine lv_istore (lv' := [(4, .int (A 136 k)), (0, .ref (h 105)), (1, .int (nI w)), (2, .int (offC (A 136) (G 0) a M w k)), (3, .int (nI k))]) hx hb dX8_offOf_24 hl (by decide) rfl (fun ls hl => ?_)
        refine lv_iconst (v := nI 0) hx hb dX8_offOf_26 (by decide) ?_
        refine lv_istore (lv' := [(5, .int (nI 0)), (4, .int (A 136 k)), (0, .ref (h 105)), (1, .int (nI w)), (2, .int (offC (A 136) (G 0) a M w k)), (3, .int (nI k))]) hx hb dX8_offOf_27 hl (by decide) rfl (fun ls hl => ?_)
        have cut_29 : ∀ (nf : Nat) (c5 : Nat), (M - c5) < nf → (c5 ≤ M) → ∀ (H : Heap) (locs : List Loc) (ls : Array Slot), va_P (dC, dI) vwCl (wWords h cs I L A Q G J) H → va_D A0 (wWords h cs I L A Q G J) → va_S A0 s.heap H locs → lv_has ls 6 [(0, .ref (h 105)), (1, .int (nI w)), (2, .int (offC (A 136) (G 0) a M w k)), (3, .int (nI k)), (4, .int (leftC (A 136) (G 0) a M w k c5)), (5, .int (nI c5))] → W p l e (headSpec wsX8_offOf ({ frames := 2, cells := 0, slots := 0, locals := 42 })).room s m ([.ref (h 105), .int (nI w)] : List Value).toArray below meth c H locs 0 0 (MQ below (va_Qi (fun (r : Int32) (u : CS) => (r = offC (A 136) (G 0) a M w R) ∧ u = (I, L, A, Q, G, J)) (xB (dC, dI) (tysA cs) A0 (fun u : CS => wWords h cs u.1 u.2.1 u.2.2.1 u.2.2.2.1 u.2.2.2.2.1 u.2.2.2.2.2)) A0) ([.ref (h 105), .int (nI w)] : List Value).toArray s 0 0 A0) (F0 m 29 ls []) := by
          intro nf
          induction nf with
          | zero => intro c5 hm; exact absurd hm (Nat.not_lt_zero _)
          | succ nf ih_29 =>
            intro c5 hm_29 hc_29 H locs ls hP hD hS hl
            refine lv_iload hx hb dX8_offOf_29 (lv_at hl 5 rfl) ?_
            refine lv_aload_n hx hb dX8_offOf_31 rfl (lv_at hl 0 rfl) ?_
            refine va_get (D := (dC, dI)) (ci := 8) (v := .ref (h 101)) (C := RX8) (T := TX8) (N := 6) hx hb hts hinX8 hown hK hP 0 rfl rfl 0 (by decide) (hts (.fieldLink RX8 28 "MixedWords$Words" "mix" "LMixedWords$Mix;") (by decide +kernel)) (fun _ h9 => h9) rfl dX8_offOf_32 ?_
            refine va_get (D := (dC, dI)) (ci := 3) (v := .int (I 121)) (C := RX3) (T := TX3) (N := 6) hx hb hts hinX3 hown hK hP 4 rfl rfl 1 (by decide) (hts (.fieldLink RX8 40 "MixedWords$Mix" "width" "I") (by decide +kernel)) (fun _ h9 => h9) rfl dX8_offOf_35 ?_
            refine xt_i (y := nI M) (hM) ?_
            refine xn_ge (tgt := 84) hx hb dX8_offOf_38 (by decide) (by omega) (by omega) (fun c_38_1 => ?_) (fun c_38_1 => ?_)
            · skip
              rw [show c5 = M by omega] at hl
              refine lv_iload_n hx hb dX8_offOf_84 rfl (lv_at hl 2 rfl) ?_
              refine lv_iload hx hb dX8_offOf_85 (lv_at hl 4 rfl) ?_
              refine lv_iload hx hb dX8_offOf_87 (lv_at hl 4 rfl) ?_
              refine lv_imul hx hb dX8_offOf_89 ?_
              refine lv_iadd hx hb dX8_offOf_90 ?_
              refine lv_istore_n (lv' := [(2, .int ((offC (A 136) (G 0) a M w k) + ((leftC (A 136) (G 0) a M w k M) * (leftC (A 136) (G 0) a M w k M)))), (0, .ref (h 105)), (1, .int (nI w)), (3, .int (nI k)), (4, .int (leftC (A 136) (G 0) a M w k M)), (5, .int (nI M))]) hx hb dX8_offOf_91 rfl hl (by decide) rfl (fun ls hl => ?_)
              refine lv_iinc (v := nI (k + 1)) (lv' := [(3, .int (nI (k + 1))), (2, .int ((offC (A 136) (G 0) a M w k) + ((leftC (A 136) (G 0) a M w k M) * (leftC (A 136) (G 0) a M w k M)))), (0, .ref (h 105)), (1, .int (nI w)), (4, .int (leftC (A 136) (G 0) a M w k M)), (5, .int (nI M))]) hx hb dX8_offOf_92 hl (k := 3) rfl (nI_1 _) (by decide) rfl (fun ls hl => ?_)
              refine lv_goto (tgt := 4) hx hb dX8_offOf_95 (by decide) ?_
              exact ih_4 (k + 1) (by omega) (by first | assumption | omega) _ _ _ hP hD hS (lv_sub hl [2, 3, 1, 0] rfl)
            · skip
              refine lv_iload hx hb dX8_offOf_41 (lv_at hl 4 rfl) ?_
              refine lv_aload_n hx hb dX8_offOf_43 rfl (lv_at hl 0 rfl) ?_
              refine va_get (D := (dC, dI)) (ci := 8) (v := .ref (h 101)) (C := RX8) (T := TX8) (N := 6) hx hb hts hinX8 hown hK hP 0 rfl rfl 0 (by decide) (hts (.fieldLink RX8 28 "MixedWords$Words" "mix" "LMixedWords$Mix;") (by decide +kernel)) (fun _ h9 => h9) rfl dX8_offOf_44 ?_
              refine va_get (D := (dC, dI)) (ci := 3) (v := .ref (h 130)) (C := RX3) (T := TX3) (N := 6) hx hb hts hinX3 hown hK hP 4 rfl rfl 4 (by decide) (hts (.fieldLink RX8 43 "MixedWords$Mix" "cells" "[[I") (by decide +kernel)) (fun _ h9 => h9) rfl dX8_offOf_47 ?_
              refine lv_iload_n hx hb dX8_offOf_50 rfl (lv_at hl 3 rfl) ?_
              refine xa_aald (b := h (k + 131)) hx hb hK hP 5 3 rfl rfl rfl (by omega) (by decide) (if_pos (by omega)) dX8_offOf_51 ?_
              refine lv_iload hx hb dX8_offOf_52 (lv_at hl 5 rfl) ?_
              refine xa_iald hx hb hK hP (6 + k) 0 (wWords_atG0 (by omega)) rfl (by omega) (by decide) dX8_offOf_54 ?_
              refine lv_iconst (v := nI 2) hx hb dX8_offOf_55 (by decide) ?_
              refine lv_aload_n hx hb dX8_offOf_56 rfl (lv_at hl 0 rfl) ?_
              refine lv_iload_n hx hb dX8_offOf_57 rfl (lv_at hl 1 rfl) ?_
              refine lv_iload hx hb dX8_offOf_58 (lv_at hl 5 rfl) ?_
              refine xj_i (wc := (wWords h cs I L A Q G J)) (wr := ([] : va_W)) hP hD hS hA [0, 1, 2, 3, 4, 5, 6, 7, 8, 9, 10, 11] [] rfl rfl (by decide +kernel) (by decide +kernel) (va_runV (As := [.int (nI w), .int (nI c5)]) (rest := [.int (nI 2), .int (((G 0) k) c5), .int (leftC (A 136) (G 0) a M w k c5)]) ⟨hx, hb, hml, hown, hts⟩ (k_X8_indexOf l dC dI h cs H.size I L A Q G J w c5 M a (by first | assumption | omega | exact hw) (by first | assumption | omega) hM (by first | assumption | omega | exact hM1) (by first | assumption | omega | exact hM4) ha (by first | assumption | omega | exact ha2)) (cwV 2 hts gX8_offOf_X8_indexOf rfl rfl rfl (by decide +kernel) ⟨Nat.le_of_ble_eq_true rfl, Nat.le_of_ble_eq_true rfl⟩) (xpV (wc := (wWords h cs I L A Q G J)) hP hD hK hN [0, 1, 2, 3, 4, 5, 6, 7, 8, 9, 10, 11] rfl (by decide) 0 (ci := 8) rfl rfl _) rfl rfl hl.1 rfl (lv_room (Nat.le_of_ble_eq_true rfl)) dX8_offOf_60 ⟨Nat.zero_le _, Nat.zero_le _⟩) (fun r_4 u_3 H locs hw hP hD hS => ?_)
              obtain ⟨hf_5, rfl⟩ := hw
              have hP : va_P (dC, dI) vwCl (wWords h cs I L A Q G J) H := hP
              have hD : va_D A0 (wWords h cs I L A Q G J) := hD
              obtain rfl := hf_5
              refine lv_imul hx hb dX8_offOf_63 ?_
              refine xt_i (y := nI (2 * (w / a ^ (M - 1 - c5) % a))) (pk_mul _ _) ?_
              refine lv_aload_n hx hb dX8_offOf_64 rfl (lv_at hl 0 rfl) ?_
              refine va_get (D := (dC, dI)) (ci := 8) (v := .ref (h 101)) (C := RX8) (T := TX8) (N := 6) hx hb hts hinX8 hown hK hP 0 rfl rfl 0 (by decide) (hts (.fieldLink RX8 28 "MixedWords$Words" "mix" "LMixedWords$Mix;") (by decide +kernel)) (fun _ h9 => h9) rfl dX8_offOf_65 ?_
              refine va_get (D := (dC, dI)) (ci := 3) (v := .int (I 122)) (C := RX3) (T := TX3) (N := 6) hx hb hts hinX3 hown hK hP 4 rfl rfl 2 (by decide) (hts (.fieldLink RX8 51 "MixedWords$Mix" "letterCount" "I") (by decide +kernel)) (fun _ h9 => h9) rfl dX8_offOf_68 ?_
              refine xt_i (y := nI a) (ha) ?_
              refine lv_isub hx hb dX8_offOf_71 ?_
              refine lv_iconst (v := nI 1) hx hb dX8_offOf_72 (by decide) ?_
              refine lv_iadd hx hb dX8_offOf_73 ?_
              refine lv_imul hx hb dX8_offOf_74 ?_
              refine lv_isub hx hb dX8_offOf_75 ?_
              refine lv_istore (lv' := [(4, .int ((leftC (A 136) (G 0) a M w k c5) - ((((G 0) k) c5) * (((nI (2 * (w / a ^ (M - 1 - c5) % a))) - (nI a)) + (nI 1))))), (0, .ref (h 105)), (1, .int (nI w)), (2, .int (offC (A 136) (G 0) a M w k)), (3, .int (nI k)), (5, .int (nI c5))]) hx hb dX8_offOf_76 hl (by decide) rfl (fun ls hl => ?_)
              refine lv_iinc (v := nI (c5 + 1)) (lv' := [(5, .int (nI (c5 + 1))), (4, .int ((leftC (A 136) (G 0) a M w k c5) - ((((G 0) k) c5) * (((nI (2 * (w / a ^ (M - 1 - c5) % a))) - (nI a)) + (nI 1))))), (0, .ref (h 105)), (1, .int (nI w)), (2, .int (offC (A 136) (G 0) a M w k)), (3, .int (nI k))]) hx hb dX8_offOf_78 hl (k := 5) rfl (nI_1 _) (by decide) rfl (fun ls hl => ?_)
              refine lv_goto (tgt := 29) hx hb dX8_offOf_81 (by decide) ?_
              exact ih_29 (c5 + 1) (by omega) (by first | assumption | omega) _ _ _ hP hD hS (lv_sub hl [2, 3, 4, 5, 1, 0] rfl)
        exact cut_29 _ 0 (Nat.lt_succ_self _) (by first | assumption | omega) _ _ _ hP hD hS (lv_sub hl [2, 3, 4, 5, 1, 0] rfl)
  exact cut_4 _ 0 (Nat.lt_succ_self _) (by first | assumption | omega) _ _ _ hP hD hS (lv_sub hl [2, 3, 1, 0] rfl)
set_option maxRecDepth 20000 in
theorem ggX8_workOutOffs_X3_wordCount : GoodIn wsX8_workOutOffs wsX3_wordCount := goodIn_r _ [9, 10, 11, 12, 13, 8, 14, 15, 37, 38, 39, 40, 41, 42] rfl (by decide +kernel)
set_option maxRecDepth 20000 in
theorem gX8_workOutOffs_X3_wordCount : GoodIn wsX8_workOutOffs (wsV RX8 62 RX3 yX3_wordCount wsX3_wordCount) := goodIn_app (goodIn_of _ (by decide +kernel)) ggX8_workOutOffs_X3_wordCount
set_option maxRecDepth 20000 in
theorem ggX8_workOutOffs_X8_offOf : GoodIn wsX8_workOutOffs wsX8_offOf := goodIn_r _ [20, 2, 21, 22, 23, 24, 25, 26, 27, 28, 19, 29, 30, 12, 13, 8, 14, 15, 31, 32, 33, 34, 35, 36, 37, 38, 39, 40, 41, 42] rfl (by decide +kernel)
set_option maxRecDepth 20000 in
theorem gX8_workOutOffs_X8_offOf : GoodIn wsX8_workOutOffs (wsV RX8 80 RX8 yX8_offOf wsX8_offOf) := goodIn_app (goodIn_of _ (by decide +kernel)) ggX8_workOutOffs_X8_offOf
theorem bdX8_workOutOffs_0 : (decode cX8_workOutOffs 0 = .ok (.aload_n 0, 1)) ∧ (decode cX8_workOutOffs 1 = .ok (.getfield 21, 3)) ∧ (decode cX8_workOutOffs 4 = .ok (.aload_n 0, 1)) ∧ (decode cX8_workOutOffs 5 = .ok (.getfield 28, 3)) ∧ (decode cX8_workOutOffs 8 = .ok (.getfield 77, 3)) ∧ (decode cX8_workOutOffs 11 = .ok (.if_icmp .ne 4, 3)) ∧ (decode cX8_workOutOffs 14 = .ok (.return_, 1)) ∧ (decode cX8_workOutOffs 15 = .ok (.iconst 0, 1)) ∧ (decode cX8_workOutOffs 16 = .ok (.istore_n 1, 1)) ∧ (decode cX8_workOutOffs 17 = .ok (.iload_n 1, 1)) ∧ (decode cX8_workOutOffs 18 = .ok (.aload_n 0, 1)) ∧ (decode cX8_workOutOffs 19 = .ok (.getfield 28, 3)) ∧ (decode cX8_workOutOffs 22 = .ok (.invokevirtual 62, 3)) ∧ (decode cX8_workOutOffs 25 = .ok (.if_icmp .ge 20, 3)) ∧ (decode cX8_workOutOffs 28 = .ok (.aload_n 0, 1)) ∧ (decode cX8_workOutOffs 29 = .ok (.getfield 9, 3)) := by decide +kernel
theorem dX8_workOutOffs_0 : decode cX8_workOutOffs 0 = .ok (.aload_n 0, 1) := bdX8_workOutOffs_0.1
theorem dX8_workOutOffs_1 : decode cX8_workOutOffs 1 = .ok (.getfield 21, 3) := bdX8_workOutOffs_0.2.1
theorem dX8_workOutOffs_4 : decode cX8_workOutOffs 4 = .ok (.aload_n 0, 1) := bdX8_workOutOffs_0.2.2.1
theorem dX8_workOutOffs_5 : decode cX8_workOutOffs 5 = .ok (.getfield 28, 3) := bdX8_workOutOffs_0.2.2.2.1
theorem dX8_workOutOffs_8 : decode cX8_workOutOffs 8 = .ok (.getfield 77, 3) := bdX8_workOutOffs_0.2.2.2.2.1
theorem dX8_workOutOffs_11 : decode cX8_workOutOffs 11 = .ok (.if_icmp .ne 4, 3) := bdX8_workOutOffs_0.2.2.2.2.2.1
theorem dX8_workOutOffs_14 : decode cX8_workOutOffs 14 = .ok (.return_, 1) := bdX8_workOutOffs_0.2.2.2.2.2.2.1
theorem dX8_workOutOffs_15 : decode cX8_workOutOffs 15 = .ok (.iconst 0, 1) := bdX8_workOutOffs_0.2.2.2.2.2.2.2.1
theorem dX8_workOutOffs_16 : decode cX8_workOutOffs 16 = .ok (.istore_n 1, 1) := bdX8_workOutOffs_0.2.2.2.2.2.2.2.2.1
theorem dX8_workOutOffs_17 : decode cX8_workOutOffs 17 = .ok (.iload_n 1, 1) := bdX8_workOutOffs_0.2.2.2.2.2.2.2.2.2.1
theorem dX8_workOutOffs_18 : decode cX8_workOutOffs 18 = .ok (.aload_n 0, 1) := bdX8_workOutOffs_0.2.2.2.2.2.2.2.2.2.2.1
theorem dX8_workOutOffs_19 : decode cX8_workOutOffs 19 = .ok (.getfield 28, 3) := bdX8_workOutOffs_0.2.2.2.2.2.2.2.2.2.2.2.1
theorem dX8_workOutOffs_22 : decode cX8_workOutOffs 22 = .ok (.invokevirtual 62, 3) := bdX8_workOutOffs_0.2.2.2.2.2.2.2.2.2.2.2.2.1
theorem dX8_workOutOffs_25 : decode cX8_workOutOffs 25 = .ok (.if_icmp .ge 20, 3) := bdX8_workOutOffs_0.2.2.2.2.2.2.2.2.2.2.2.2.2.1
theorem dX8_workOutOffs_28 : decode cX8_workOutOffs 28 = .ok (.aload_n 0, 1) := bdX8_workOutOffs_0.2.2.2.2.2.2.2.2.2.2.2.2.2.2.1
theorem dX8_workOutOffs_29 : decode cX8_workOutOffs 29 = .ok (.getfield 9, 3) := bdX8_workOutOffs_0.2.2.2.2.2.2.2.2.2.2.2.2.2.2.2
theorem bdX8_workOutOffs_32 : (decode cX8_workOutOffs 32 = .ok (.iload_n 1, 1)) ∧ (decode cX8_workOutOffs 33 = .ok (.aload_n 0, 1)) ∧ (decode cX8_workOutOffs 34 = .ok (.iload_n 1, 1)) ∧ (decode cX8_workOutOffs 35 = .ok (.invokevirtual 80, 3)) ∧ (decode cX8_workOutOffs 38 = .ok (.iastore, 1)) ∧ (decode cX8_workOutOffs 39 = .ok (.iinc 1 1, 3)) ∧ (decode cX8_workOutOffs 42 = .ok (.goto (-25), 3)) ∧ (decode cX8_workOutOffs 45 = .ok (.aload_n 0, 1)) ∧ (decode cX8_workOutOffs 46 = .ok (.aload_n 0, 1)) ∧ (decode cX8_workOutOffs 47 = .ok (.getfield 28, 3)) ∧ (decode cX8_workOutOffs 50 = .ok (.getfield 77, 3)) ∧ (decode cX8_workOutOffs 53 = .ok (.putfield 21, 3)) ∧ (decode cX8_workOutOffs 56 = .ok (.return_, 1)) := by decide +kernel
theorem dX8_workOutOffs_32 : decode cX8_workOutOffs 32 = .ok (.iload_n 1, 1) := bdX8_workOutOffs_32.1
theorem dX8_workOutOffs_33 : decode cX8_workOutOffs 33 = .ok (.aload_n 0, 1) := bdX8_workOutOffs_32.2.1
theorem dX8_workOutOffs_34 : decode cX8_workOutOffs 34 = .ok (.iload_n 1, 1) := bdX8_workOutOffs_32.2.2.1
theorem dX8_workOutOffs_35 : decode cX8_workOutOffs 35 = .ok (.invokevirtual 80, 3) := bdX8_workOutOffs_32.2.2.2.1
theorem dX8_workOutOffs_38 : decode cX8_workOutOffs 38 = .ok (.iastore, 1) := bdX8_workOutOffs_32.2.2.2.2.1
theorem dX8_workOutOffs_39 : decode cX8_workOutOffs 39 = .ok (.iinc 1 1, 3) := bdX8_workOutOffs_32.2.2.2.2.2.1
theorem dX8_workOutOffs_42 : decode cX8_workOutOffs 42 = .ok (.goto (-25), 3) := bdX8_workOutOffs_32.2.2.2.2.2.2.1
theorem dX8_workOutOffs_45 : decode cX8_workOutOffs 45 = .ok (.aload_n 0, 1) := bdX8_workOutOffs_32.2.2.2.2.2.2.2.1
theorem dX8_workOutOffs_46 : decode cX8_workOutOffs 46 = .ok (.aload_n 0, 1) := bdX8_workOutOffs_32.2.2.2.2.2.2.2.2.1
theorem dX8_workOutOffs_47 : decode cX8_workOutOffs 47 = .ok (.getfield 28, 3) := bdX8_workOutOffs_32.2.2.2.2.2.2.2.2.2.1
theorem dX8_workOutOffs_50 : decode cX8_workOutOffs 50 = .ok (.getfield 77, 3) := bdX8_workOutOffs_32.2.2.2.2.2.2.2.2.2.2.1
theorem dX8_workOutOffs_53 : decode cX8_workOutOffs 53 = .ok (.putfield 21, 3) := bdX8_workOutOffs_32.2.2.2.2.2.2.2.2.2.2.2.1
theorem dX8_workOutOffs_56 : decode cX8_workOutOffs 56 = .ok (.return_, 1) := bdX8_workOutOffs_32.2.2.2.2.2.2.2.2.2.2.2.2
set_option maxHeartbeats 4000000 in
set_option maxRecDepth 100000 in
theorem k_X8_workOutOffs (l : Launch) (dC : Nat → ClassId) (dI : Nat → Nat → Nat) (h : Nat → Nat) (cs : Nat → ClassId) (sz : Nat) (I : Nat → Int32) (L : Nat → Int64) (A : Nat → Nat → Int32) (Q : Nat → Nat → Int64) (G : Nat → Nat → Nat → Int32) (J : Nat → Nat → Nat → Int64) (R M a : Nat) (hR : I 120 = nI R) (hR1 : 1 ≤ R) (hR5 : R ≤ 5) (hM : I 121 = nI M) (hM1 : 1 ≤ M) (hM4 : M ≤ 4) (ha : I 122 = nI a) (ha2 : a = 2 ∨ a = 4) : Met l yX8_workOutOffs wsX8_workOutOffs ({ frames := 3, cells := 0, slots := 0, locals := 67 }) (va_Pc [.ref (h 105)] (xPre (dC, dI) (wWords h cs I L A Q G J) (tysA cs) sz)) (va_Qv (fun (u : CS) => ∃ f170 : Nat → Int32, ∃ x173 : Int32, ((I 173 = I 123 ∧ f170 = A 170 ∧ x173 = I 173) ∨ (¬ I 173 = I 123 ∧ x173 = I 123 ∧ ∀ t : Nat, t < a ^ M → f170 t = offC (A 136) (G 0) a M t R)) ∧ u = ((va_up I 173 x173), L, (va_up A 170 f170), Q, G, J)) (xB (dC, dI) (tysA cs) (va_A (wWords h cs I L A Q G J) sz) (fun u : CS => wWords h cs u.1 u.2.1 u.2.2.1 u.2.2.2.1 u.2.2.2.2.1 u.2.2.2.2.2)) (va_A (wWords h cs I L A Q G J) sz)) 0 0 (va_A (wWords h cs I L A Q G J) sz) := by
  refine Met.ofW (cc := cX8_workOutOffs) (maxL := 2) (ret := none) (by decide) rfl ?_
  intro p e s m args below meth c s₁ B hml hv
  obtain ⟨rfl, hsz, hP, hK, hD0, hN⟩ := hv
  have hx := B.exec
  have hb := B.bytes
  have hr := B.returns
  have hts := atoms_spec (ws := wsX8_workOutOffs) B.pre
  have hown : s.vm.findClass RX8 = some m.cls := findClass_of_methodNamed B.named
  have hlocks := B.notSynchronized
  subst hsz
  have hD := hD0.self (sz := s.heap.size)
  generalize hAe : va_A (wWords h cs I L A Q G J) s.heap.size = A0 at hD ⊢
  have hA : ∀ q : Nat, s.heap.size ≤ q → A0 q := fun q h => by rw [← hAe]; exact Or.inr h
  have hl := lv_entry ([.ref (h 105)]) (n := 2) (Nat.le_of_ble_eq_true rfl)
  rw [lg_entry_eq]
  generalize (lg_sl ([.ref (h 105)]) ++ List.replicate (2 - (lg_sl ([.ref (h 105)])).length) Slot.unset).toArray = ls at hl ⊢
  have hl : lv_has ls 2 [(0, .ref (h 105))] := hl
  generalize hH : s.heap = H at hP ⊢
  have hS : va_S A0 s.heap H [] := by rw [← hH]; exact va_S.rf
  have hinX8 : ∀ w ∈ wsX80, w ∈ wsX8_workOutOffs := by decide +kernel
  have hinX3 : ∀ w ∈ wsX30, w ∈ wsX8_workOutOffs := by decide +kernel
  have hpw : a ^ M ≤ 256 := pw_le ha2 hM4
  refine lv_aload_n hx hb dX8_workOutOffs_0 rfl (lv_at hl 0 rfl) ?_
  refine va_get (D := (dC, dI)) (ci := 8) (v := .int (I 173)) (C := RX8) (T := TX8) (N := 6) hx hb hts hinX8 hown hK hP 0 rfl rfl 4 (by decide) (hts (.fieldLink RX8 21 "MixedWords$Words" "offsStamp" "I") (by decide +kernel)) (fun _ h9 => h9) rfl dX8_workOutOffs_1 ?_
  refine lv_aload_n hx hb dX8_workOutOffs_4 rfl (lv_at hl 0 rfl) ?_
  refine va_get (D := (dC, dI)) (ci := 8) (v := .ref (h 101)) (C := RX8) (T := TX8) (N := 6) hx hb hts hinX8 hown hK hP 0 rfl rfl 0 (by decide) (hts (.fieldLink RX8 28 "MixedWords$Words" "mix" "LMixedWords$Mix;") (by decide +kernel)) (fun _ h9 => h9) rfl dX8_workOutOffs_5 ?_
  refine va_get (D := (dC, dI)) (ci := 3) (v := .int (I 123)) (C := RX3) (T := TX3) (N := 6) hx hb hts hinX3 hown hK hP 4 rfl rfl 3 (by decide) (hts (.fieldLink RX8 77 "MixedWords$Mix" "stamp" "I") (by decide +kernel)) (fun _ h9 => h9) rfl dX8_workOutOffs_8 ?_
  refine lv_icmp_ne (tgt := 15) hx hb dX8_workOutOffs_11 (by decide) (fun c_11_0 => ?_) (fun c_11_0 => ?_)
  · skip
    refine lv_iconst (v := nI 0) hx hb dX8_workOutOffs_15 (by decide) ?_
    refine lv_istore_n (lv' := [(1, .int (nI 0)), (0, .ref (h 105))]) hx hb dX8_workOutOffs_16 rfl hl (by decide) rfl (fun ls hl => ?_)
    have cut_17 : ∀ (nf : Nat) (k : Nat) (g : Nat → Int32), (a ^ M - k) < nf → (k ≤ a ^ M) → (∀ t : Nat, t < k → g t = offC (A 136) (G 0) a M t R) → ∀ (H : Heap) (locs : List Loc) (ls : Array Slot), va_P (dC, dI) vwCl (wWords h cs I L (va_up A 170 g) Q G J) H → va_D A0 (wWords h cs I L (va_up A 170 g) Q G J) → va_S A0 s.heap H locs → lv_has ls 2 [(0, .ref (h 105)), (1, .int (nI k))] → W p l e (headSpec wsX8_workOutOffs ({ frames := 3, cells := 0, slots := 0, locals := 67 })).room s m ([.ref (h 105)] : List Value).toArray below meth c H locs 0 0 (MQ below (va_Qv (fun (u : CS) => ∃ f170 : Nat → Int32, ∃ x173 : Int32, ((I 173 = I 123 ∧ f170 = A 170 ∧ x173 = I 173) ∨ (¬ I 173 = I 123 ∧ x173 = I 123 ∧ ∀ t : Nat, t < a ^ M → f170 t = offC (A 136) (G 0) a M t R)) ∧ u = ((va_up I 173 x173), L, (va_up A 170 f170), Q, G, J)) (xB (dC, dI) (tysA cs) A0 (fun u : CS => wWords h cs u.1 u.2.1 u.2.2.1 u.2.2.2.1 u.2.2.2.2.1 u.2.2.2.2.2)) A0) ([.ref (h 105)] : List Value).toArray s 0 0 A0) (F0 m 17 ls []) := by
      intro nf
      induction nf with
      | zero => intro k g hm; exact absurd hm (Nat.not_lt_zero _)
      | succ nf ih_17 =>
        intro k g hm_17 hk_17 hg_17 H locs ls hP hD hS hl
        refine lv_iload_n hx hb dX8_workOutOffs_17 rfl (lv_at hl 1 rfl) ?_
        refine lv_aload_n hx hb dX8_workOutOffs_18 rfl (lv_at hl 0 rfl) ?_
        refine va_get (D := (dC, dI)) (ci := 8) (v := .ref (h 101)) (C := RX8) (T := TX8) (N := 6) hx hb hts hinX8 hown hK hP 0 rfl rfl 0 (by decide) (hts (.fieldLink RX8 28 "MixedWords$Words" "mix" "LMixedWords$Mix;") (by decide +kernel)) (fun _ h9 => h9) rfl dX8_workOutOffs_19 ?_
        refine xj_i (wc := (wMix h cs I L (va_up A 170 g) Q G J)) (wr := [(h 105, .inr (8, [.ref (h 101), .ref (h 170), .ref (h 171), .ref (h 172), .int (I 173), .int (I 174)])), (h 170, .inl (cs 0, 256, .inl g)), (h 171, .inl (cs 0, 256, .inl (A 171))), (h 172, .inl (cs 0, 256, .inl (A 172)))]) hP hD hS hA [4, 5, 6, 7, 8, 9, 10, 11] [0, 1, 2, 3] rfl rfl (by decide +kernel) (by decide +kernel) (va_runV (As := []) (rest := [.int (nI k)]) ⟨hx, hb, hml, hown, hts⟩ (k_X3_wordCount l dC dI h cs H.size I L (va_up A 170 g) Q G J M a hM (by first | assumption | omega | exact hM1) (by first | assumption | omega | exact hM4) ha (by first | assumption | omega | exact ha2)) (cwV 0 hts gX8_workOutOffs_X3_wordCount rfl rfl rfl (by decide +kernel) ⟨Nat.le_of_ble_eq_true rfl, Nat.le_of_ble_eq_true rfl⟩) (xpV (wc := (wMix h cs I L (va_up A 170 g) Q G J)) hP hD hK hN [4, 5, 6, 7, 8, 9, 10, 11] rfl (by decide) 4 (ci := 3) rfl rfl _) rfl rfl hl.1 rfl (lv_room (Nat.le_of_ble_eq_true rfl)) dX8_workOutOffs_22 ⟨Nat.zero_le _, Nat.zero_le _⟩) (fun r_3 u_2 H locs hw hP hD hS => ?_)
        obtain ⟨hf_4, rfl⟩ := hw
        have hP : va_P (dC, dI) vwCl (wWords h cs I L (va_up A 170 g) Q G J) H := hP
        have hD : va_D A0 (wWords h cs I L (va_up A 170 g) Q G J) := hD
        obtain rfl := hf_4
        refine xn_ge (tgt := 45) hx hb dX8_workOutOffs_25 (by decide) (by omega) (by omega) (fun c_25_4 => ?_) (fun c_25_4 => ?_)
        · skip
          refine lv_aload_n hx hb dX8_workOutOffs_45 rfl (lv_at hl 0 rfl) ?_
          refine lv_aload_n hx hb dX8_workOutOffs_46 rfl (lv_at hl 0 rfl) ?_
          refine va_get (D := (dC, dI)) (ci := 8) (v := .ref (h 101)) (C := RX8) (T := TX8) (N := 6) hx hb hts hinX8 hown hK hP 0 rfl rfl 0 (by decide) (hts (.fieldLink RX8 28 "MixedWords$Words" "mix" "LMixedWords$Mix;") (by decide +kernel)) (fun _ h9 => h9) rfl dX8_workOutOffs_47 ?_
          refine va_get (D := (dC, dI)) (ci := 3) (v := .int (I 123)) (C := RX3) (T := TX3) (N := 6) hx hb hts hinX3 hown hK hP 4 rfl rfl 3 (by decide) (hts (.fieldLink RX8 77 "MixedWords$Mix" "stamp" "I") (by decide +kernel)) (fun _ h9 => h9) rfl dX8_workOutOffs_50 ?_
          refine va_put (D := (dC, dI)) (ci := 8) (v := .int (I 123)) (ty := .int) (C := RX8) (T := TX8) (N := 6) hx hb hts hinX8 tyX8 tyX8_ok nmX8 hown hK hP hD hS 0 rfl rfl 4 (by decide) (hts (.fieldLink RX8 21 "MixedWords$Words" "offsStamp" "I") (by decide +kernel)) (fun _ h9 => h9) rfl (by decide +kernel) rfl rfl (Nat.le_of_ble_eq_true rfl) dX8_workOutOffs_53 (fun H locs hP hD hS => ?_)
          have hP : va_P (dC, dI) vwCl (wWords h cs (va_up I 173 (I 123)) L (va_up A 170 g) Q G J) H := hP
          have hD : va_D A0 (wWords h cs (va_up I 173 (I 123)) L (va_up A 170 g) Q G J) := hD
          exact xr_v hx hb hr hlocks hK hS dX8_workOutOffs_56 ((va_up I 173 (I 123)), L, (va_up A 170 g), Q, G, J) ⟨g, (I 123), (Or.inr ⟨by assumption, rfl, fun t ht => hg_17 t (by omega)⟩), rfl⟩ hP hD
        · skip
          refine lv_aload_n hx hb dX8_workOutOffs_28 rfl (lv_at hl 0 rfl) ?_
          refine va_get (D := (dC, dI)) (ci := 8) (v := .ref (h 170)) (C := RX8) (T := TX8) (N := 6) hx hb hts hinX8 hown hK hP 0 rfl rfl 1 (by decide) (hts (.fieldLink RX8 9 "MixedWords$Words" "offs" "[I") (by decide +kernel)) (fun _ h9 => h9) rfl dX8_workOutOffs_29 ?_
          refine lv_iload_n hx hb dX8_workOutOffs_32 rfl (lv_at hl 1 rfl) ?_
          refine lv_aload_n hx hb dX8_workOutOffs_33 rfl (lv_at hl 0 rfl) ?_
          refine lv_iload_n hx hb dX8_workOutOffs_34 rfl (lv_at hl 1 rfl) ?_
          refine xj_i (wc := (wWords h cs I L (va_up A 170 g) Q G J)) (wr := ([] : va_W)) hP hD hS hA [0, 1, 2, 3, 4, 5, 6, 7, 8, 9, 10, 11] [] rfl rfl (by decide +kernel) (by decide +kernel) (va_runV (As := [.int (nI k)]) (rest := [.int (nI k), .ref (h 170)]) ⟨hx, hb, hml, hown, hts⟩ (k_X8_offOf l dC dI h cs H.size I L (va_up A 170 g) Q G J k R M a (by first | assumption | omega) hR (by first | assumption | omega | exact hR1) (by first | assumption | omega | exact hR5) hM (by first | assumption | omega | exact hM1) (by first | assumption | omega | exact hM4) ha (by first | assumption | omega | exact ha2)) (cwV 1 hts gX8_workOutOffs_X8_offOf rfl rfl rfl (by decide +kernel) ⟨Nat.le_of_ble_eq_true rfl, Nat.le_of_ble_eq_true rfl⟩) (xpV (wc := (wWords h cs I L (va_up A 170 g) Q G J)) hP hD hK hN [0, 1, 2, 3, 4, 5, 6, 7, 8, 9, 10, 11] rfl (by decide) 0 (ci := 8) rfl rfl _) rfl rfl hl.1 rfl (lv_room (Nat.le_of_ble_eq_true rfl)) dX8_workOutOffs_35 ⟨Nat.zero_le _, Nat.zero_le _⟩) (fun r_7 u_6 H locs hw hP hD hS => ?_)
          obtain ⟨hf_8, rfl⟩ := hw
          have hP : va_P (dC, dI) vwCl (wWords h cs I L (va_up A 170 g) Q G J) H := hP
          have hD : va_D A0 (wWords h cs I L (va_up A 170 g) Q G J) := hD
          obtain rfl := hf_8
          refine xa_iast hx hb hK hP hD hS 1 0 rfl rfl (by omega) (by decide) dX8_workOutOffs_38 (fun H locs hP hD hS => ?_)
          have hP : va_P (dC, dI) vwCl (wWords h cs I L (va_up A 170 (upd g k (offC (A 136) (G 0) a M k R))) Q G J) H := hP
          have hD : va_D A0 (wWords h cs I L (va_up A 170 (upd g k (offC (A 136) (G 0) a M k R))) Q G J) := hD
          refine lv_iinc (v := nI (k + 1)) (lv' := [(1, .int (nI (k + 1))), (0, .ref (h 105))]) hx hb dX8_workOutOffs_39 hl (k := 1) rfl (nI_1 _) (by decide) rfl (fun ls hl => ?_)
          refine lv_goto (tgt := 17) hx hb dX8_workOutOffs_42 (by decide) ?_
          exact ih_17 (k + 1) (upd g k (offC (A 136) (G 0) a M k R)) (by omega) (by first | assumption | omega) (by first | exact (fun t ht => absurd ht (Nat.not_lt_zero t)) | exact offs_s (F := fun t => offC (A 136) (G 0) a M t R) hg_17) _ _ _ hP hD hS (lv_sub hl [1, 0] rfl)
    exact cut_17 _ 0 (A 170) (Nat.lt_succ_self _) (by first | assumption | omega) (by first | exact (fun t ht => absurd ht (Nat.not_lt_zero t)) | exact offs_s (F := fun t => offC (A 136) (G 0) a M t R) hg_17) _ _ _ hP hD hS (lv_sub hl [1, 0] rfl)
  · skip
    exact xr_v hx hb hr hlocks hK hS dX8_workOutOffs_14 ((va_up I 173 (I 173)), L, (va_up A 170 (A 170)), Q, G, J) ⟨(A 170), (I 173), (Or.inl ⟨by assumption, rfl, rfl⟩), rfl⟩ hP hD
