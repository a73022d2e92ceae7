
def selC (x : Int32) : Nat → Nat
  | 0 => 0
  | i + 1 => selC x i + if bt1 x i = nI 1 then 1 else 0
def selI (x : Int32) (r : Nat) : Nat → Nat
  | 0 => 0
  | i + 1 => if bt1 x i = nI 1 ∧ selC x i = r then i else selI x r i
theorem selC_yes {x : Int32} {i : Nat} (h : bt1 x i = nI 1) : selC x (i + 1) = selC x i + 1 := by rw [selC, if_pos h]
theorem selC_no {x : Int32} {i : Nat} (h : ¬ bt1 x i = nI 1) : selC x (i + 1) = selC x i := by rw [selC, if_neg h, Nat.add_zero]
theorem selC_le (x : Int32) : ∀ i : Nat, selC x i ≤ i
  | 0 => Nat.le_refl 0
  | i + 1 => by
    have := selC_le x i
    rw [selC]
    split <;> omega
theorem selC_mono (x : Int32) {i : Nat} : ∀ d : Nat, selC x i ≤ selC x (i + d)
  | 0 => Nat.le_refl _
  | d + 1 => by
    have := selC_mono x (i := i) d
    rw [show i + (d + 1) = (i + d) + 1 by omega, selC]
    split <;> omega
theorem selI_eq {x : Int32} {i : Nat} (h : bt1 x i = nI 1) : ∀ d : Nat, selI x (selC x i) (i + 1 + d) = i
  | 0 => by rw [show i + 1 + 0 = i + 1 by omega, selI, if_pos ⟨h, rfl⟩]
  | d + 1 => by
    rw [show i + 1 + (d + 1) = (i + 1 + d) + 1 by omega, selI, if_neg]
    · exact selI_eq h d
    · rintro ⟨-, g⟩
      have := selC_mono x (i := i + 1) d
      rw [selC_yes h] at this
      omega
theorem selI_at {x : Int32} {i M : Nat} (h : bt1 x i = nI 1) (hi : i < M) : selI x (selC x i) M = i := by
  have := selI_eq h (M - (i + 1))
  rw [show i + 1 + (M - (i + 1)) = M by omega] at this
  exact this
def gramM (co : Nat → Int32) (M : Nat) (x : Int32) : Nat → Nat → Int64 := fun r c => (dotF co (selI x r M) (selI x c M)).toInt64
def worthF (co : Nat → Int32) (M : Nat) (x : Int32) : Int64 := detM (selC x M) (gramM co M x)
/-- rows below n are laid -/
def wRows (co : Nat → Int32) (M : Nat) (x : Int32) (n : Nat) (q : Nat → Int64) : Prop := ∀ r c : Nat, r < n → c < selC x M → q (4 * r + c) = gramM co M x r c
theorem w_in {co : Nat → Int32} {M : Nat} {x : Int32} {n i j m : Nat} {q : Nat → Int64} (hM : M ≤ 4) (hi : i < M) (hj : j < M) (hbi : bt1 x i = nI 1) (hbj : bt1 x j = nI 1) (hn : n = selC x i) (hm : m = selC x j) (h : wRows co M x n q) (h2 : ∀ c : Nat, c < m → q (4 * n + c) = gramM co M x n c) :
    wRows co M x n (vp_updL q (4 * n + m) (dotF co i j).toInt64) ∧ ∀ c : Nat, c < m + 1 → vp_updL q (4 * n + m) (dotF co i j).toInt64 (4 * n + c) = gramM co M x n c := by
  have hsel : selC x M ≤ 4 := Nat.le_trans (selC_le x M) hM
  refine ⟨fun r c hr hc => ?_, fun c hc => ?_⟩
  · rw [pk_uLn (by omega)]
    exact h r c hr hc
  · by_cases e : c = m
    · rw [e, pk_uLs, gramM, hn, hm, selI_at hbi hi, selI_at hbj hj]
    · rw [pk_uLn (by omega)]
      exact h2 c (by omega)
theorem w_out {co : Nat → Int32} {M : Nat} {x : Int32} {n j m : Nat} {q : Nat → Int64} (hj : M ≤ j) (hj2 : j ≤ M) (hm : m = selC x j) (h : wRows co M x n q) (h2 : ∀ c : Nat, c < m → q (4 * n + c) = gramM co M x n c) : wRows co M x (n + 1) q := fun r c hr hc => by
  by_cases e : r = n
  · rw [e]
    exact h2 c (by rw [hm, show j = M by omega]; exact hc)
  · exact h r c (by omega) hc

def fracM (co me : Nat → Int32) (cl : Nat) : Nat → Nat → Int64 := fun r c => if c = cl then (sumF co me r).toInt64 else (dotF co r c).toInt64
def fRows (co me : Nat → Int32) (cl M n j : Nat) (q : Nat → Int64) : Prop := ∀ r c : Nat, (r < n ∧ c < M) ∨ (r = n ∧ c < j) → q (4 * r + c) = fracM co me cl r c
theorem f_in {co me : Nat → Int32} {cl M n j : Nat} {q : Nat → Int64} {v : Int64} (hM : M ≤ 4) (hj : j < M) (hv : v = fracM co me cl n j) (h : fRows co me cl M n j q) : fRows co me cl M n (j + 1) (vp_updL q (4 * n + j) v) := fun r c hr => by
  by_cases e : 4 * r + c = 4 * n + j
  · have a1 : r = n := by omega
    have a2 : c = j := by omega
    rw [e, pk_uLs, hv, a1, a2]
  · rw [pk_uLn e]
    exact h r c (by omega)
theorem f_up {co me : Nat → Int32} {cl M n j : Nat} {q : Nat → Int64} (hj : M ≤ j) (h : fRows co me cl M n j q) : fRows co me cl M (n + 1) 0 q := fun r c hr => h r c (by omega)
set_option maxRecDepth 20000 in
theorem ggX10_worthOf_X10_dot : GoodIn wsX10_worthOf wsX10_dot := goodIn_r _ [7, 8, 13, 14, 15, 16, 17, 18, 19, 20, 21, 22, 23, 24, 25, 26, 27, 28, 29, 30, 31, 32, 33, 34, 35, 36, 37, 38, 39, 40] rfl (by decide +kernel)
set_option maxRecDepth 20000 in
theorem gX10_worthOf_X10_dot : GoodIn wsX10_worthOf (wsV RX10 175 RX10 yX10_dot wsX10_dot) := goodIn_app (goodIn_of _ (by decide +kernel)) ggX10_worthOf_X10_dot
set_option maxRecDepth 20000 in
theorem ggX10_worthOf_X10_determinant : GoodIn wsX10_worthOf wsX10_determinant := goodIn_r _ [12, 2, 13, 14, 15, 16, 17, 18, 19, 20, 21, 22, 23, 24, 25, 26, 27, 28, 29, 30, 31, 32, 33, 34, 35, 36, 37, 38, 39, 40] rfl (by decide +kernel)
set_option maxRecDepth 20000 in
theorem gX10_worthOf_X10_determinant : GoodIn wsX10_worthOf (wsV RX10 178 RX10 yX10_determinant wsX10_determinant) := goodIn_app (goodIn_of _ (by decide +kernel)) ggX10_worthOf_X10_determinant
theorem bdX10_worthOf_0 : (decode cX10_worthOf 0 = .ok (.iconst 0, 1)) ∧ (decode cX10_worthOf 1 = .ok (.istore_n 2, 1)) ∧ (decode cX10_worthOf 2 = .ok (.iconst 0, 1)) ∧ (decode cX10_worthOf 3 = .ok (.istore_n 3, 1)) ∧ (decode cX10_worthOf 4 = .ok (.iload_n 3, 1)) ∧ (decode cX10_worthOf 5 = .ok (.aload_n 0, 1)) ∧ (decode cX10_worthOf 6 = .ok (.getfield 13, 3)) ∧ (decode cX10_worthOf 9 = .ok (.if_icmp .ge 74, 3)) ∧ (decode cX10_worthOf 12 = .ok (.iload_n 1, 1)) ∧ (decode cX10_worthOf 13 = .ok (.iload_n 3, 1)) ∧ (decode cX10_worthOf 14 = .ok (.ishr, 1)) ∧ (decode cX10_worthOf 15 = .ok (.iconst 1, 1)) ∧ (decode cX10_worthOf 16 = .ok (.iand, 1)) ∧ (decode cX10_worthOf 17 = .ok (.iconst 1, 1)) ∧ (decode cX10_worthOf 18 = .ok (.if_icmp .ne 59, 3)) ∧ (decode cX10_worthOf 21 = .ok (.iconst 0, 1)) := by decide +kernel
theorem dX10_worthOf_0 : decode cX10_worthOf 0 = .ok (.iconst 0, 1) := bdX10_worthOf_0.1
theorem dX10_worthOf_1 : decode cX10_worthOf 1 = .ok (.istore_n 2, 1) := bdX10_worthOf_0.2.1
theorem dX10_worthOf_2 : decode cX10_worthOf 2 = .ok (.iconst 0, 1) := bdX10_worthOf_0.2.2.1
theorem dX10_worthOf_3 : decode cX10_worthOf 3 = .ok (.istore_n 3, 1) := bdX10_worthOf_0.2.2.2.1
theorem dX10_worthOf_4 : decode cX10_worthOf 4 = .ok (.iload_n 3, 1) := bdX10_worthOf_0.2.2.2.2.1
theorem dX10_worthOf_5 : decode cX10_worthOf 5 = .ok (.aload_n 0, 1) := bdX10_worthOf_0.2.2.2.2.2.1
theorem dX10_worthOf_6 : decode cX10_worthOf 6 = .ok (.getfield 13, 3) := bdX10_worthOf_0.2.2.2.2.2.2.1
theorem dX10_worthOf_9 : decode cX10_worthOf 9 = .ok (.if_icmp .ge 74, 3) := bdX10_worthOf_0.2.2.2.2.2.2.2.1
theorem dX10_worthOf_12 : decode cX10_worthOf 12 = .ok (.iload_n 1, 1) := bdX10_worthOf_0.2.2.2.2.2.2.2.2.1
theorem dX10_worthOf_13 : decode cX10_worthOf 13 = .ok (.iload_n 3, 1) := bdX10_worthOf_0.2.2.2.2.2.2.2.2.2.1
theorem dX10_worthOf_14 : decode cX10_worthOf 14 = .ok (.ishr, 1) := bdX10_worthOf_0.2.2.2.2.2.2.2.2.2.2.1
theorem dX10_worthOf_15 : decode cX10_worthOf 15 = .ok (.iconst 1, 1) := bdX10_worthOf_0.2.2.2.2.2.2.2.2.2.2.2.1
theorem dX10_worthOf_16 : decode cX10_worthOf 16 = .ok (.iand, 1) := bdX10_worthOf_0.2.2.2.2.2.2.2.2.2.2.2.2.1
theorem dX10_worthOf_17 : decode cX10_worthOf 17 = .ok (.iconst 1, 1) := bdX10_worthOf_0.2.2.2.2.2.2.2.2.2.2.2.2.2.1
theorem dX10_worthOf_18 : decode cX10_worthOf 18 = .ok (.if_icmp .ne 59, 3) := bdX10_worthOf_0.2.2.2.2.2.2.2.2.2.2.2.2.2.2.1
theorem dX10_worthOf_21 : decode cX10_worthOf 21 = .ok (.iconst 0, 1) := bdX10_worthOf_0.2.2.2.2.2.2.2.2.2.2.2.2.2.2.2
theorem bdX10_worthOf_22 : (decode cX10_worthOf 22 = .ok (.istore 4, 2)) ∧ (decode cX10_worthOf 24 = .ok (.iconst 0, 1)) ∧ (decode cX10_worthOf 25 = .ok (.istore 5, 2)) ∧ (decode cX10_worthOf 27 = .ok (.iload 5, 2)) ∧ (decode cX10_worthOf 29 = .ok (.aload_n 0, 1)) ∧ (decode cX10_worthOf 30 = .ok (.getfield 13, 3)) ∧ (decode cX10_worthOf 33 = .ok (.if_icmp .ge 41, 3)) ∧ (decode cX10_worthOf 36 = .ok (.iload_n 1, 1)) ∧ (decode cX10_worthOf 37 = .ok (.iload 5, 2)) ∧ (decode cX10_worthOf 39 = .ok (.ishr, 1)) ∧ (decode cX10_worthOf 40 = .ok (.iconst 1, 1)) ∧ (decode cX10_worthOf 41 = .ok (.iand, 1)) ∧ (decode cX10_worthOf 42 = .ok (.iconst 1, 1)) ∧ (decode cX10_worthOf 43 = .ok (.if_icmp .ne 25, 3)) ∧ (decode cX10_worthOf 46 = .ok (.aload_n 0, 1)) ∧ (decode cX10_worthOf 47 = .ok (.getfield 47, 3)) := by decide +kernel
theorem dX10_worthOf_22 : decode cX10_worthOf 22 = .ok (.istore 4, 2) := bdX10_worthOf_22.1
theorem dX10_worthOf_24 : decode cX10_worthOf 24 = .ok (.iconst 0, 1) := bdX10_worthOf_22.2.1
theorem dX10_worthOf_25 : decode cX10_worthOf 25 = .ok (.istore 5, 2) := bdX10_worthOf_22.2.2.1
theorem dX10_worthOf_27 : decode cX10_worthOf 27 = .ok (.iload 5, 2) := bdX10_worthOf_22.2.2.2.1
theorem dX10_worthOf_29 : decode cX10_worthOf 29 = .ok (.aload_n 0, 1) := bdX10_worthOf_22.2.2.2.2.1
theorem dX10_worthOf_30 : decode cX10_worthOf 30 = .ok (.getfield 13, 3) := bdX10_worthOf_22.2.2.2.2.2.1
theorem dX10_worthOf_33 : decode cX10_worthOf 33 = .ok (.if_icmp .ge 41, 3) := bdX10_worthOf_22.2.2.2.2.2.2.1
theorem dX10_worthOf_36 : decode cX10_worthOf 36 = .ok (.iload_n 1, 1) := bdX10_worthOf_22.2.2.2.2.2.2.2.1
theorem dX10_worthOf_37 : decode cX10_worthOf 37 = .ok (.iload 5, 2) := bdX10_worthOf_22.2.2.2.2.2.2.2.2.1
theorem dX10_worthOf_39 : decode cX10_worthOf 39 = .ok (.ishr, 1) := bdX10_worthOf_22.2.2.2.2.2.2.2.2.2.1
theorem dX10_worthOf_40 : decode cX10_worthOf 40 = .ok (.iconst 1, 1) := bdX10_worthOf_22.2.2.2.2.2.2.2.2.2.2.1
theorem dX10_worthOf_41 : decode cX10_worthOf 41 = .ok (.iand, 1) := bdX10_worthOf_22.2.2.2.2.2.2.2.2.2.2.2.1
theorem dX10_worthOf_42 : decode cX10_worthOf 42 = .ok (.iconst 1, 1) := bdX10_worthOf_22.2.2.2.2.2.2.2.2.2.2.2.2.1
theorem dX10_worthOf_43 : decode cX10_worthOf 43 = .ok (.if_icmp .ne 25, 3) := bdX10_worthOf_22.2.2.2.2.2.2.2.2.2.2.2.2.2.1
theorem dX10_worthOf_46 : decode cX10_worthOf 46 = .ok (.aload_n 0, 1) := bdX10_worthOf_22.2.2.2.2.2.2.2.2.2.2.2.2.2.2.1
theorem dX10_worthOf_47 : decode cX10_worthOf 47 = .ok (.getfield 47, 3) := bdX10_worthOf_22.2.2.2.2.2.2.2.2.2.2.2.2.2.2.2
theorem bdX10_worthOf_50 : (decode cX10_worthOf 50 = .ok (.iconst 4, 1)) ∧ (decode cX10_worthOf 51 = .ok (.iload_n 2, 1)) ∧ (decode cX10_worthOf 52 = .ok (.imul, 1)) ∧ (decode cX10_worthOf 53 = .ok (.iload 4, 2)) ∧ (decode cX10_worthOf 55 = .ok (.iadd, 1)) ∧ (decode cX10_worthOf 56 = .ok (.aload_n 0, 1)) ∧ (decode cX10_worthOf 57 = .ok (.iload_n 3, 1)) ∧ (decode cX10_worthOf 58 = .ok (.iload 5, 2)) ∧ (decode cX10_worthOf 60 = .ok (.invokevirtual 175, 3)) ∧ (decode cX10_worthOf 63 = .ok (.i2l, 1)) ∧ (decode cX10_worthOf 64 = .ok (.lastore, 1)) ∧ (decode cX10_worthOf 65 = .ok (.iinc 4 1, 3)) ∧ (decode cX10_worthOf 68 = .ok (.iinc 5 1, 3)) ∧ (decode cX10_worthOf 71 = .ok (.goto (-44), 3)) ∧ (decode cX10_worthOf 74 = .ok (.iinc 2 1, 3)) ∧ (decode cX10_worthOf 77 = .ok (.iinc 3 1, 3)) := by decide +kernel
theorem dX10_worthOf_50 : decode cX10_worthOf 50 = .ok (.iconst 4, 1) := bdX10_worthOf_50.1
theorem dX10_worthOf_51 : decode cX10_worthOf 51 = .ok (.iload_n 2, 1) := bdX10_worthOf_50.2.1
theorem dX10_worthOf_52 : decode cX10_worthOf 52 = .ok (.imul, 1) := bdX10_worthOf_50.2.2.1
theorem dX10_worthOf_53 : decode cX10_worthOf 53 = .ok (.iload 4, 2) := bdX10_worthOf_50.2.2.2.1
theorem dX10_worthOf_55 : decode cX10_worthOf 55 = .ok (.iadd, 1) := bdX10_worthOf_50.2.2.2.2.1
theorem dX10_worthOf_56 : decode cX10_worthOf 56 = .ok (.aload_n 0, 1) := bdX10_worthOf_50.2.2.2.2.2.1
theorem dX10_worthOf_57 : decode cX10_worthOf 57 = .ok (.iload_n 3, 1) := bdX10_worthOf_50.2.2.2.2.2.2.1
theorem dX10_worthOf_58 : decode cX10_worthOf 58 = .ok (.iload 5, 2) := bdX10_worthOf_50.2.2.2.2.2.2.2.1
theorem dX10_worthOf_60 : decode cX10_worthOf 60 = .ok (.invokevirtual 175, 3) := bdX10_worthOf_50.2.2.2.2.2.2.2.2.1
theorem dX10_worthOf_63 : decode cX10_worthOf 63 = .ok (.i2l, 1) := bdX10_worthOf_50.2.2.2.2.2.2.2.2.2.1
theorem dX10_worthOf_64 : decode cX10_worthOf 64 = .ok (.lastore, 1) := bdX10_worthOf_50.2.2.2.2.2.2.2.2.2.2.1
theorem dX10_worthOf_65 : decode cX10_worthOf 65 = .ok (.iinc 4 1, 3) := bdX10_worthOf_50.2.2.2.2.2.2.2.2.2.2.2.1
theorem dX10_worthOf_68 : decode cX10_worthOf 68 = .ok (.iinc 5 1, 3) := bdX10_worthOf_50.2.2.2.2.2.2.2.2.2.2.2.2.1
theorem dX10_worthOf_71 : decode cX10_worthOf 71 = .ok (.goto (-44), 3) := bdX10_worthOf_50.2.2.2.2.2.2.2.2.2.2.2.2.2.1
theorem dX10_worthOf_74 : decode cX10_worthOf 74 = .ok (.iinc 2 1, 3) := bdX10_worthOf_50.2.2.2.2.2.2.2.2.2.2.2.2.2.2.1
theorem dX10_worthOf_77 : decode cX10_worthOf 77 = .ok (.iinc 3 1, 3) := bdX10_worthOf_50.2.2.2.2.2.2.2.2.2.2.2.2.2.2.2
theorem bdX10_worthOf_80 : (decode cX10_worthOf 80 = .ok (.goto (-76), 3)) ∧ (decode cX10_worthOf 83 = .ok (.aload_n 0, 1)) ∧ (decode cX10_worthOf 84 = .ok (.iload_n 2, 1)) ∧ (decode cX10_worthOf 85 = .ok (.invokevirtual 178, 3)) ∧ (decode cX10_worthOf 88 = .ok (.lreturn, 1)) := by decide +kernel
theorem dX10_worthOf_80 : decode cX10_worthOf 80 = .ok (.goto (-76), 3) := bdX10_worthOf_80.1
theorem dX10_worthOf_83 : decode cX10_worthOf 83 = .ok (.aload_n 0, 1) := bdX10_worthOf_80.2.1
theorem dX10_worthOf_84 : decode cX10_worthOf 84 = .ok (.iload_n 2, 1) := bdX10_worthOf_80.2.2.1
theorem dX10_worthOf_85 : decode cX10_worthOf 85 = .ok (.invokevirtual 178, 3) := bdX10_worthOf_80.2.2.2.1
theorem dX10_worthOf_88 : decode cX10_worthOf 88 = .ok (.lreturn, 1) := bdX10_worthOf_80.2.2.2.2
set_option maxHeartbeats 4000000 in
set_option maxRecDepth 100000 in
theorem k_X10_worthOf (l : Launch) (dC : Nat → ClassId) (dI : Nat → Nat → Nat) (h : Nat → Nat) (cs : Nat → ClassId) (sz : Nat) (I : Nat → Int32) (L : Nat → Int64) (A : Nat → Nat → Int32) (Q : Nat → Nat → Int64) (x : Int32) (M : Nat) (hM : I 1 = nI M) (hM1 : 1 ≤ M) (hM4 : M ≤ 4) : Met l yX10_worthOf wsX10_worthOf ({ frames := 1, cells := 0, slots := 0, locals := 30 }) (va_Pc [.ref (h 0), .int x] (xPre (dC, dI) (rW h cs I L A Q) (tysA cs) sz)) (va_Ql (fun (r : Int64) (u : RS) => ∃ q19 : Nat → Int64, (r = worthF (A 17) M x) ∧ u = (I, L, A, (va_up Q 19 q19))) (xB (dC, dI) (tysA cs) (va_A (rW h cs I L A Q) sz) (fun u : RS => rW h cs u.1 u.2.1 u.2.2.1 u.2.2.2)) (va_A (rW h cs I L A Q) sz)) 0 0 (va_A (rW h cs I L A Q) sz) := by
  refine Met.ofW (cc := cX10_worthOf) (maxL := 6) (ret := (some .long)) (by decide) rfl ?_
  intro p e s m args below meth c s₁ B hml hv
  obtain ⟨rfl, hsz, hP, hK, hD0, hN⟩ := hv
  have hx := B.exec
  have hb := B.bytes
  have hr := B.returns
  have hts := atoms_spec (ws := wsX10_worthOf) B.pre
  have hown : s.vm.findClass RX10 = some m.cls := findClass_of_methodNamed B.named
  have hlocks := B.notSynchronized
  subst hsz
  have hD := hD0.self (sz := s.heap.size)
  generalize hAe : va_A (rW h cs I L A Q) s.heap.size = A0 at hD ⊢
  have hA : ∀ q : Nat, s.heap.size ≤ q → A0 q := fun q h => by rw [← hAe]; exact Or.inr h
  have hl := lv_entry ([.ref (h 0), .int x]) (n := 6) (Nat.le_of_ble_eq_true rfl)
  rw [lg_entry_eq]
  generalize (lg_sl ([.ref (h 0), .int x]) ++ List.replicate (6 - (lg_sl ([.ref (h 0), .int x])).length) Slot.unset).toArray = ls at hl ⊢
  have hl : lv_has ls 6 [(0, .ref (h 0)), (1, .int x)] := hl
  generalize hH : s.heap = H at hP ⊢
  have hS : va_S A0 s.heap H [] := by rw [← hH]; exact va_S.rf
  have hinX10 : ∀ w ∈ wsX100, w ∈ wsX10_worthOf := by decide +kernel
  refine lv_iconst (v := nI 0) hx hb dX10_worthOf_0 (by decide) ?_
  refine lv_istore_n (lv' := [(2, .int (nI 0)), (0, .ref (h 0)), (1, .int x)]) hx hb dX10_worthOf_1 rfl hl (by decide) rfl (fun ls hl => ?_)
  refine lv_iconst (v := nI 0) hx hb dX10_worthOf_2 (by decide) ?_
  refine lv_istore_n (lv' := [(3, .int (nI 0)), (2, .int (nI 0)), (0, .ref (h 0)), (1, .int x)]) hx hb dX10_worthOf_3 rfl hl (by decide) rfl (fun ls hl => ?_)
  have cut_4 : ∀ (nf : Nat) (i3 : Nat) (n2 : Nat) (q : Nat → Int64), (M - i3) < nf → (i3 ≤ M) → (n2 = selC x i3) → (n2 ≤ i3) → (wRows (A 17) M x n2 q) → ∀ (H : Heap) (locs : List Loc) (ls : Array Slot), va_P (dC, dI) vwCl (rW h cs I L A (va_up Q 19 q)) H → va_D A0 (rW h cs I L A (va_up Q 19 q)) → va_S A0 s.heap H locs → lv_has ls 6 [(0, .ref (h 0)), (1, .int x), (2, .int (nI n2)), (3, .int (nI i3))] → W p l e (headSpec wsX10_worthOf ({ frames := 1, cells := 0, slots := 0, locals := 30 })).room s m ([.ref (h 0), .int x] : List Value).toArray below meth c H locs 0 0 (MQ below (va_Ql (fun (r : Int64) (u : RS) => ∃ q19 : Nat → Int64, (r = worthF (A 17) M x) ∧ u = (I, L, A, (va_up Q 19 q19))) (xB (dC, dI) (tysA cs) A0 (fun u : RS => rW h cs u.1 u.2.1 u.2.2.1 u.2.2.2)) A0) ([.ref (h 0), .int x] : List Value).toArray s 0 0 A0) (F0 m 4 ls []) := by
    intro nf
    induction nf with
    | zero => intro i3 n2 q hm; exact absurd hm (Nat.not_lt_zero _)
    | succ nf ih_4 =>
      intro i3 n2 q hm_4 hi_4 hn_4 hnl_4 hq_4 H locs ls hP hD hS hl
      refine lv_iload_n hx hb dX10_worthOf_4 rfl (lv_at hl 3 rfl) ?_
      refine lv_aload_n hx hb dX10_worthOf_5 rfl (lv_at hl 0 rfl) ?_
      refine va_get (D := (dC, dI)) (ci := 10) (v := .int (I 1)) (C := RX10) (T := TX10) (N := 28) hx hb hts hinX10 hown hK hP 0 rfl rfl 1 (by decide) (hts (.fieldLink RX10 13 "MixedWordsModel" "columns" "I") (by decide +kernel)) (fun _ h9 => h9) rfl dX10_worthOf_6 ?_
      refine xt_i (y := nI M) (hM) ?_
      refine xn_ge (tgt := 83) hx hb dX10_worthOf_9 (by decide) (by omega) (by omega) (fun c_9_0 => ?_) (fun c_9_0 => ?_)
      · skip
        refine lv_aload_n hx hb dX10_worthOf_83 rfl (lv_at hl 0 rfl) ?_
        refine lv_iload_n hx hb dX10_worthOf_84 rfl (lv_at hl 2 rfl) ?_
        refine xj_l (wc := (rW h cs I L A (va_up Q 19 q))) (wr := ([] : va_W)) hP hD hS hA [0, 1, 2, 3, 4, 5, 6, 7, 8, 9, 10, 11, 12, 13, 14, 15, 16] [] rfl rfl (by decide +kernel) (by decide +kernel) (va_runV (As := [.int (nI n2)]) (rest := []) ⟨hx, hb, hml, hown, hts⟩ (k_X10_determinant l dC dI h cs H.size I L A (va_up Q 19 q) n2 (gramM (A 17) M x) (by first | assumption | omega) (fun r c hr hc => hq_4 r c hr (by rw [show M = i3 by omega, ← hn_4]; exact hc))) (cwV 1 hts gX10_worthOf_X10_determinant rfl rfl rfl (by decide +kernel) ⟨Nat.le_of_ble_eq_true rfl, Nat.le_of_ble_eq_true rfl⟩) (xpV (wc := (rW h cs I L A (va_up Q 19 q))) hP hD hK hN [0, 1, 2, 3, 4, 5, 6, 7, 8, 9, 10, 11, 12, 13, 14, 15, 16] rfl (by decide) 0 (ci := 10) rfl rfl _) rfl rfl hl.1 rfl (lv_room (Nat.le_of_ble_eq_true rfl)) dX10_worthOf_85 ⟨Nat.zero_le _, Nat.zero_le _⟩) (fun r_3 u_2 H locs hw hP hD hS => ?_)
        obtain ⟨q19_4, hf_5, rfl⟩ := hw
        have hP : va_P (dC, dI) vwCl (rW h cs I L A (va_up Q 19 q19_4)) H := hP
        have hD : va_D A0 (rW h cs I L A (va_up Q 19 q19_4)) := hD
        obtain rfl := hf_5
        exact xr_l (v := (detM n2 (gramM (A 17) M x))) hx hb hr hlocks hK hS dX10_worthOf_88 (I, L, A, (va_up Q 19 q19_4)) ⟨q19_4, (by rw [worthF, show M = i3 by omega, ← hn_4]), rfl⟩ hP hD
      · skip
        refine lv_iload_n hx hb dX10_worthOf_12 rfl (lv_at hl 1 rfl) ?_
        refine lv_iload_n hx hb dX10_worthOf_13 rfl (lv_at hl 3 rfl) ?_
        refine lv_ishr hx hb dX10_worthOf_14 ?_
        refine lv_iconst (v := nI 1) hx hb dX10_worthOf_15 (by decide) ?_
        refine lv_iand hx hb dX10_worthOf_16 ?_
        refine lv_iconst (v := nI 1) hx hb dX10_worthOf_17 (by decide) ?_
        refine lv_icmp_ne (tgt := 77) hx hb dX10_worthOf_18 (by decide) (fun c_18_5 => ?_) (fun c_18_5 => ?_)
        · skip
          have hbi : ¬ bt1 x i3 = nI 1 := c_18_5
          refine lv_iinc (v := nI (i3 + 1)) (lv' := [(3, .int (nI (i3 + 1))), (0, .ref (h 0)), (1, .int x), (2, .int (nI n2))]) hx hb dX10_worthOf_77 hl (k := 3) rfl (nI_1 _) (by decide) rfl (fun ls hl => ?_)
          refine lv_goto (tgt := 4) hx hb dX10_worthOf_80 (by decide) ?_
          exact ih_4 (i3 + 1) n2 q (by omega) (by first | assumption | omega) (by first | rfl | (rw [selC_yes hbi]; omega) | (rw [selC_no hbi]; exact hn_4)) (by first | assumption | omega) (by first | (intro r c hr; omega) | exact w_out (by omega) hj_27 hm_27 hq_27 hr_27 | exact hq_4) _ _ _ hP hD hS (lv_sub hl [1, 2, 3, 0] rfl)
        · skip
          have hbi : bt1 x i3 = nI 1 := c_18_5
          refine lv_iconst (v := nI 0) hx hb dX10_worthOf_21 (by decide) ?_
          refine lv_istore (lv' := [(4, .int (nI 0)), (0, .ref (h 0)), (1, .int x), (2, .int (nI n2)), (3, .int (nI i3))]) hx hb dX10_worthOf_22 hl (by decide) rfl (fun ls hl => ?_)
          refine lv_iconst (v := nI 0) hx hb dX10_worthOf_24 (by decide) ?_
          refine lv_istore (lv' := [(5, .int (nI 0)), (4, .int (nI 0)), (0, .ref (h 0)), (1, .int x), (2, .int (nI n2)), (3, .int (nI i3))]) hx hb dX10_worthOf_25 hl (by decide) rfl (fun ls hl => ?_)
          have cut_27 : ∀ (nf : Nat) (j5 : Nat) (m4 : Nat) (q2 : Nat → Int64), (M - j5) < nf → (j5 ≤ M) → (m4 = selC x j5) → (m4 ≤ j5) → (wRows (A 17) M x n2 q2) → (∀ c : Nat, c < m4 → q2 (4 * n2 + c) = gramM (A 17) M x n2 c) → ∀ (H : Heap) (locs : List Loc) (ls : Array Slot), va_P (dC, dI) vwCl (rW h cs I L A (va_up Q 19 q2)) H → va_D A0 (rW h cs I L A (va_up Q 19 q2)) → va_S A0 s.heap H locs → lv_has ls 6 [(0, .ref (h 0)), (1, .int x), (2, .int (nI n2)), (3, .int (nI i3)), (4, .int (nI m4)), (5, .int (nI j5))] → W p l e (headSpec wsX10_worthOf ({ frames := 1, cells := 0, slots := 0, locals := 30 })).room s m ([.ref (h 0), .int x] : List Value).toArray below meth c H locs 0 0 (MQ below (va_Ql (fun (r : Int64) (u : RS) => ∃ q19 : Nat → Int64, (r = worthF (A 17) M x) ∧ u = (I, L, A, (va_up Q 19 q19))) (xB (dC, dI) (tysA cs) A0 (fun u : RS => rW h cs u.1 u.2.1 u.2.2.1 u.2.2.2)) A0) ([.ref (h 0), .int x] : List Value).toArray s 0 0 A0) (F0 m 27 ls []) := by
            intro nf
            induction nf with
            | zero => intro j5 m4 q2 hm; exact absurd hm (Nat.not_lt_zero _)
            | succ nf ih_27 =>
              intro j5 m4 q2 hm_27 hj_27 hm_27 hml_27 hq_27 hr_27 H locs ls hP hD hS hl
              refine lv_iload hx hb dX10_worthOf_27 (lv_at hl 5 rfl) ?_
              refine lv_aload_n hx hb dX10_worthOf_29 rfl (lv_at hl 0 rfl) ?_
              refine va_get (D := (dC, dI)) (ci := 10) (v := .int (I 1)) (C := RX10) (T := TX10) (N := 28) hx hb hts hinX10 hown hK hP 0 rfl rfl 1 (by decide) (hts (.fieldLink RX10 13 "MixedWordsModel" "columns" "I") (by decide +kernel)) (fun _ h9 => h9) rfl dX10_worthOf_30 ?_
              refine xt_i (y := nI M) (hM) ?_
              refine xn_ge (tgt := 74) hx hb dX10_worthOf_33 (by decide) (by omega) (by omega) (fun c_33_6 => ?_) (fun c_33_6 => ?_)
              · skip
                refine lv_iinc (v := nI (n2 + 1)) (lv' := [(2, .int (nI (n2 + 1))), (0, .ref (h 0)), (1, .int x), (3, .int (nI i3)), (4, .int (nI m4)), (5, .int (nI j5))]) hx hb dX10_worthOf_74 hl (k := 2) rfl (nI_1 _) (by decide) rfl (fun ls hl => ?_)
                refine lv_iinc (v := nI (i3 + 1)) (lv' := [(3, .int (nI (i3 + 1))), (2, .int (nI (n2 + 1))), (0, .ref (h 0)), (1, .int x), (4, .int (nI m4)), (5, .int (nI j5))]) hx hb dX10_worthOf_77 hl (k := 3) rfl (nI_1 _) (by decide) rfl (fun ls hl => ?_)
                refine lv_goto (tgt := 4) hx hb dX10_worthOf_80 (by decide) ?_
                exact ih_4 (i3 + 1) (n2 + 1) q2 (by omega) (by first | assumption | omega) (by first | rfl | (rw [selC_yes hbi]; omega) | (rw [selC_no hbi]; exact hn_4)) (by first | assumption | omega) (by first | (intro r c hr; omega) | exact w_out (by omega) hj_27 hm_27 hq_27 hr_27 | exact hq_4) _ _ _ hP hD hS (lv_sub hl [2, 3, 1, 0] rfl)
              · skip
                refine lv_iload_n hx hb dX10_worthOf_36 rfl (lv_at hl 1 rfl) ?_
                refine lv_iload hx hb dX10_worthOf_37 (lv_at hl 5 rfl) ?_
                refine lv_ishr hx hb dX10_worthOf_39 ?_
                refine lv_iconst (v := nI 1) hx hb dX10_worthOf_40 (by decide) ?_
                refine lv_iand hx hb dX10_worthOf_41 ?_
                refine lv_iconst (v := nI 1) hx hb dX10_worthOf_42 (by decide) ?_
                refine lv_icmp_ne (tgt := 68) hx hb dX10_worthOf_43 (by decide) (fun c_43_7 => ?_) (fun c_43_7 => ?_)
                · skip
                  have hbj : ¬ bt1 x j5 = nI 1 := c_43_7
                  refine lv_iinc (v := nI (j5 + 1)) (lv' := [(5, .int (nI (j5 + 1))), (0, .ref (h 0)), (1, .int x), (2, .int (nI n2)), (3, .int (nI i3)), (4, .int (nI m4))]) hx hb dX10_worthOf_68 hl (k := 5) rfl (nI_1 _) (by decide) rfl (fun ls hl => ?_)
                  refine lv_goto (tgt := 27) hx hb dX10_worthOf_71 (by decide) ?_
                  exact ih_27 (j5 + 1) m4 q2 (by omega) (by first | assumption | omega) (by first | rfl | (rw [selC_yes hbj]; omega) | (rw [selC_no hbj]; exact hm_27)) (by first | assumption | omega) (by first | exact hq_4 | exact (w_in hM4 (by omega) (by omega) hbi hbj hn_4 hm_27 hq_27 hr_27).1 | exact hq_27) (by first | (intro c hc; omega) | exact (w_in hM4 (by omega) (by omega) hbi hbj hn_4 hm_27 hq_27 hr_27).2 | exact hr_27) _ _ _ hP hD hS (lv_sub hl [1, 2, 3, 4, 5, 0] rfl)
                · skip
                  have hbj : bt1 x j5 = nI 1 := c_43_7
                  refine lv_aload_n hx hb dX10_worthOf_46 rfl (lv_at hl 0 rfl) ?_
                  refine va_get (D := (dC, dI)) (ci := 10) (v := .ref (h 19)) (C := RX10) (T := TX10) (N := 28) hx hb hts hinX10 hown hK hP 0 rfl rfl 19 (by decide) (hts (.fieldLink RX10 47 "MixedWordsModel" "square" "[J") (by decide +kernel)) (fun _ h9 => h9) rfl dX10_worthOf_47 ?_
                  refine lv_iconst (v := nI 4) hx hb dX10_worthOf_50 (by decide) ?_
                  refine lv_iload_n hx hb dX10_worthOf_51 rfl (lv_at hl 2 rfl) ?_
                  refine lv_imul hx hb dX10_worthOf_52 ?_
                  refine xt_i (y := nI (4 * n2)) (pk_mul _ _) ?_
                  refine lv_iload hx hb dX10_worthOf_53 (lv_at hl 4 rfl) ?_
                  refine lv_iadd hx hb dX10_worthOf_55 ?_
                  refine xt_i (y := nI ((4 * n2) + m4)) (nI_add _ _) ?_
                  refine lv_aload_n hx hb dX10_worthOf_56 rfl (lv_at hl 0 rfl) ?_
                  refine lv_iload_n hx hb dX10_worthOf_57 rfl (lv_at hl 3 rfl) ?_
                  refine lv_iload hx hb dX10_worthOf_58 (lv_at hl 5 rfl) ?_
                  refine xj_i (wc := (rW h cs I L A (va_up Q 19 q2))) (wr := ([] : va_W)) hP hD hS hA [0, 1, 2, 3, 4, 5, 6, 7, 8, 9, 10, 11, 12, 13, 14, 15, 16] [] rfl rfl (by decide +kernel) (by decide +kernel) (va_runV (As := [.int (nI i3), .int (nI j5)]) (rest := [.int (nI ((4 * n2) + m4)), .ref (h 19)]) ⟨hx, hb, hml, hown, hts⟩ (k_X10_dot l dC dI h cs H.size I L A (va_up Q 19 q2) i3 j5 (by first | assumption | omega) (by first | assumption | omega)) (cwV 2 hts gX10_worthOf_X10_dot rfl rfl rfl (by decide +kernel) ⟨Nat.le_of_ble_eq_true rfl, Nat.le_of_ble_eq_true rfl⟩) (xpV (wc := (rW h cs I L A (va_up Q 19 q2))) hP hD hK hN [0, 1, 2, 3, 4, 5, 6, 7, 8, 9, 10, 11, 12, 13, 14, 15, 16] rfl (by decide) 0 (ci := 10) rfl rfl _) rfl rfl hl.1 rfl (lv_room (Nat.le_of_ble_eq_true rfl)) dX10_worthOf_60 ⟨Nat.zero_le _, Nat.zero_le _⟩) (fun r_10 u_9 H locs hw hP hD hS => ?_)
                  obtain ⟨hf_11, rfl⟩ := hw
                  have hP : va_P (dC, dI) vwCl (rW h cs I L A (va_up Q 19 q2)) H := hP
                  have hD : va_D A0 (rW h cs I L A (va_up Q 19 q2)) := hD
                  obtain rfl := hf_11
                  refine lv_i2l (v := (dotF (A 17) i3 j5).toInt64) hx hb dX10_worthOf_63 rfl ?_
                  refine xa_last hx hb hK hP hD hS 10 1 rfl rfl (by omega) (by decide) dX10_worthOf_64 (fun H locs hP hD hS => ?_)
                  have hP : va_P (dC, dI) vwCl (rW h cs I L A (va_up Q 19 (vp_updL q2 ((4 * n2) + m4) ((dotF (A 17) i3 j5).toInt64)))) H := hP
                  have hD : va_D A0 (rW h cs I L A (va_up Q 19 (vp_updL q2 ((4 * n2) + m4) ((dotF (A 17) i3 j5).toInt64)))) := hD
                  refine lv_iinc (v := nI (m4 + 1)) (lv' := [(4, .int (nI (m4 + 1))), (0, .ref (h 0)), (1, .int x), (2, .int (nI n2)), (3, .int (nI i3)), (5, .int (nI j5))]) hx hb dX10_worthOf_65 hl (k := 4) rfl (nI_1 _) (by decide) rfl (fun ls hl => ?_)
                  refine lv_iinc (v := nI (j5 + 1)) (lv' := [(5, .int (nI (j5 + 1))), (4, .int (nI (m4 + 1))), (0, .ref (h 0)), (1, .int x), (2, .int (nI n2)), (3, .int (nI i3))]) hx hb dX10_worthOf_68 hl (k := 5) rfl (nI_1 _) (by decide) rfl (fun ls hl => ?_)
                  refine lv_goto (tgt := 27) hx hb dX10_worthOf_71 (by decide) ?_
                  exact ih_27 (j5 + 1) (m4 + 1) (vp_updL q2 ((4 * n2) + m4) ((dotF (A 17) i3 j5).toInt64)) (by omega) (by first | assumption | omega) (by first | rfl | (rw [selC_yes hbj]; omega) | (rw [selC_no hbj]; exact hm_27)) (by first | assumption | omega) (by first | exact hq_4 | exact (w_in hM4 (by omega) (by omega) hbi hbj hn_4 hm_27 hq_27 hr_27).1 | exact hq_27) (by first | (intro c hc; omega) | exact (w_in hM4 (by omega) (by omega) hbi hbj hn_4 hm_27 hq_27 hr_27).2 | exact hr_27) _ _ _ hP hD hS (lv_sub hl [2, 3, 4, 5, 1, 0] rfl)
          exact cut_27 _ 0 0 q (Nat.lt_succ_self _) (by first | assumption | omega) (by first | rfl | (rw [selC_yes hbj]; omega) | (rw [selC_no hbj]; exact hm_27)) (by first | assumption | omega) (by first | exact hq_4 | exact (w_in hM4 (by omega) (by omega) hbi hbj hn_4 hm_27 hq_27 hr_27).1 | exact hq_27) (by first | (intro c hc; omega) | exact (w_in hM4 (by omega) (by omega) hbi hbj hn_4 hm_27 hq_27 hr_27).2 | exact hr_27) _ _ _ hP hD hS (lv_sub hl [2, 3, 4, 5, 1, 0] rfl)
  exact cut_4 _ 0 0 (Q 19) (Nat.lt_succ_self _) (by first | assumption | omega) (by first | rfl | (rw [selC_yes hbi]; omega) | (rw [selC_no hbi]; exact hn_4)) (by first | assumption | omega) (by first | (intro r c hr; omega) | exact w_out (by omega) hj_27 hm_27 hq_27 hr_27 | exact hq_4) _ _ _ hP hD hS (lv_sub hl [2, 3, 1, 0] rfl)
set_option maxRecDepth 20000 in
theorem ggX10_worth_X10_whole : GoodIn wsX10_worth wsX10_whole := goodIn_r _ [6, 7, 32, 33, 34, 35, 36, 37, 38, 39, 40, 41, 42, 43, 44, 45, 46, 47, 48, 49, 50, 51, 52, 53, 54, 55, 56, 57, 58, 59] rfl (by decide +kernel)
set_option maxRecDepth 20000 in
theorem gX10_worth_X10_whole : GoodIn wsX10_worth (wsV RX10 182 RX10 yX10_whole wsX10_whole) := goodIn_app (goodIn_of _ (by decide +kernel)) ggX10_worth_X10_whole
set_option maxRecDepth 20000 in
theorem ggX10_worth_X10_in : GoodIn wsX10_worth wsX10_in := goodIn_r _ [10] rfl (by decide +kernel)
set_option maxRecDepth 20000 in
theorem gX10_worth_X10_in : GoodIn wsX10_worth (va_wsS RX10 77 yX10_in wsX10_in) := goodIn_app (goodIn_of _ (by decide +kernel)) ggX10_worth_X10_in
set_option maxRecDepth 20000 in
theorem ggX10_worth_X10_lay : GoodIn wsX10_worth wsX10_lay := goodIn_r _ [14, 15, 7, 16, 17, 18, 32, 33, 34, 35, 36, 37, 38, 39, 40, 41, 42, 43, 44, 45, 46, 47, 48, 49, 50, 51, 52, 53, 54, 55, 56, 57, 58, 59] rfl (by decide +kernel)
set_option maxRecDepth 20000 in
theorem gX10_worth_X10_lay : GoodIn wsX10_worth (wsV RX10 172 RX10 yX10_lay wsX10_lay) := goodIn_app (goodIn_of _ (by decide +kernel)) ggX10_worth_X10_lay
set_option maxRecDepth 20000 in
theorem ggX10_worth_X10_worthOf : GoodIn wsX10_worth wsX10_worthOf := goodIn_r _ [22, 7, 23, 24, 25, 26, 5, 27, 15, 28, 29, 30, 31, 32, 33, 34, 35, 36, 37, 38, 39, 40, 41, 42, 43, 44, 45, 46, 47, 48, 49, 50, 51, 52, 53, 54, 55, 56, 57, 58, 59] rfl (by decide +kernel)
set_option maxRecDepth 20000 in
theorem gX10_worth_X10_worthOf : GoodIn wsX10_worth (wsV RX10 187 RX10 yX10_worthOf wsX10_worthOf) := goodIn_app (goodIn_of _ (by decide +kernel)) ggX10_worth_X10_worthOf
theorem bdX10_worth_0 : (decode cX10_worth 0 = .ok (.iload_n 1, 1)) ∧ (decode cX10_worth 1 = .ok (.i2l, 1)) ∧ (decode cX10_worth 2 = .ok (.lconst 1, 1)) ∧ (decode cX10_worth 3 = .ok (.aload_n 0, 1)) ∧ (decode cX10_worth 4 = .ok (.invokevirtual 182, 3)) ∧ (decode cX10_worth 7 = .ok (.i2l, 1)) ∧ (decode cX10_worth 8 = .ok (.invokestatic 77, 3)) ∧ (decode cX10_worth 11 = .ok (.ifCond .ne 7, 3)) ∧ (decode cX10_worth 14 = .ok (.ldc2_w 185, 3)) ∧ (decode cX10_worth 17 = .ok (.lreturn, 1)) ∧ (decode cX10_worth 18 = .ok (.aload_n 0, 1)) ∧ (decode cX10_worth 19 = .ok (.invokevirtual 172, 3)) ∧ (decode cX10_worth 22 = .ok (.aload_n 0, 1)) ∧ (decode cX10_worth 23 = .ok (.iload_n 1, 1)) ∧ (decode cX10_worth 24 = .ok (.invokevirtual 187, 3)) ∧ (decode cX10_worth 27 = .ok (.lreturn, 1)) := by decide +kernel
theorem dX10_worth_0 : decode cX10_worth 0 = .ok (.iload_n 1, 1) := bdX10_worth_0.1
theorem dX10_worth_1 : decode cX10_worth 1 = .ok (.i2l, 1) := bdX10_worth_0.2.1
theorem dX10_worth_2 : decode cX10_worth 2 = .ok (.lconst 1, 1) := bdX10_worth_0.2.2.1
theorem dX10_worth_3 : decode cX10_worth 3 = .ok (.aload_n 0, 1) := bdX10_worth_0.2.2.2.1
theorem dX10_worth_4 : decode cX10_worth 4 = .ok (.invokevirtual 182, 3) := bdX10_worth_0.2.2.2.2.1
theorem dX10_worth_7 : decode cX10_worth 7 = .ok (.i2l, 1) := bdX10_worth_0.2.2.2.2.2.1
theorem dX10_worth_8 : decode cX10_worth 8 = .ok (.invokestatic 77, 3) := bdX10_worth_0.2.2.2.2.2.2.1
theorem dX10_worth_11 : decode cX10_worth 11 = .ok (.ifCond .ne 7, 3) := bdX10_worth_0.2.2.2.2.2.2.2.1
theorem dX10_worth_14 : decode cX10_worth 14 = .ok (.ldc2_w 185, 3) := bdX10_worth_0.2.2.2.2.2.2.2.2.1
theorem dX10_worth_17 : decode cX10_worth 17 = .ok (.lreturn, 1) := bdX10_worth_0.2.2.2.2.2.2.2.2.2.1
theorem dX10_worth_18 : decode cX10_worth 18 = .ok (.aload_n 0, 1) := bdX10_worth_0.2.2.2.2.2.2.2.2.2.2.1
theorem dX10_worth_19 : decode cX10_worth 19 = .ok (.invokevirtual 172, 3) := bdX10_worth_0.2.2.2.2.2.2.2.2.2.2.2.1
theorem dX10_worth_22 : decode cX10_worth 22 = .ok (.aload_n 0, 1) := bdX10_worth_0.2.2.2.2.2.2.2.2.2.2.2.2.1
theorem dX10_worth_23 : decode cX10_worth 23 = .ok (.iload_n 1, 1) := bdX10_worth_0.2.2.2.2.2.2.2.2.2.2.2.2.2.1
theorem dX10_worth_24 : decode cX10_worth 24 = .ok (.invokevirtual 187, 3) := bdX10_worth_0.2.2.2.2.2.2.2.2.2.2.2.2.2.2.1
theorem dX10_worth_27 : decode cX10_worth 27 = .ok (.lreturn, 1) := bdX10_worth_0.2.2.2.2.2.2.2.2.2.2.2.2.2.2.2
set_option maxHeartbeats 4000000 in
set_option maxRecDepth 100000 in
theorem k_X10_worth (l : Launch) (dC : Nat → ClassId) (dI : Nat → Nat → Nat) (h : Nat → Nat) (cs : Nat → ClassId) (sz : Nat) (I : Nat → Int32) (L : Nat → Int64) (A : Nat → Nat → Int32) (Q : Nat → Nat → Int64) (x : Int32) (R M : Nat) (hR : I 0 = nI R) (hR1 : 1 ≤ R) (hR5 : R ≤ 5) (hM : I 1 = nI M) (hM1 : 1 ≤ M) (hM4 : M ≤ 4) : Met l yX10_worth wsX10_worth ({ frames := 2, cells := 0, slots := 0, locals := 55 }) (va_Pc [.ref (h 0), .int x] (xPre (dC, dI) (rW h cs I L A Q) (tysA cs) sz)) (va_Ql (fun (r : Int64) (u : RS) => ∃ f17 : Nat → Int32, ∃ f18 : Nat → Int32, ∃ q19 : Nat → Int64, ((∃ i : Nat, 1 ≤ i ∧ i < 2 ^ M ∧ x = nI i ∧ laid (A 3) R M f17 f18 ∧ r = worthF f17 M (nI i)) ∨ (r = -1 ∧ (∀ i : Nat, 1 ≤ i → i < 2 ^ M → x ≠ nI i) ∧ f17 = A 17 ∧ f18 = A 18 ∧ q19 = Q 19)) ∧ u = (I, L, (va_up (va_up A 17 f17) 18 f18), (va_up Q 19 q19))) (xB (dC, dI) (tysA cs) (va_A (rW h cs I L A Q) sz) (fun u : RS => rW h cs u.1 u.2.1 u.2.2.1 u.2.2.2)) (va_A (rW h cs I L A Q) sz)) 0 0 (va_A (rW h cs I L A Q) sz) := by
  refine Met.ofW (cc := cX10_worth) (maxL := 2) (ret := (some .long)) (by decide) rfl ?_
  intro p e s m args below meth c s₁ B hml hv
  obtain ⟨rfl, hsz, hP, hK, hD0, hN⟩ := hv
  have hx := B.exec
  have hb := B.bytes
  have hr := B.returns
  have hts := atoms_spec (ws := wsX10_worth) B.pre
  have hown : s.vm.findClass RX10 = some m.cls := findClass_of_methodNamed B.named
  have hlocks := B.notSynchronized
  subst hsz
  have hD := hD0.self (sz := s.heap.size)
  generalize hAe : va_A (rW h cs I L A Q) s.heap.size = A0 at hD ⊢
  have hA : ∀ q : Nat, s.heap.size ≤ q → A0 q := fun q h => by rw [← hAe]; exact Or.inr h
  have hl := lv_entry ([.ref (h 0), .int x]) (n := 2) (Nat.le_of_ble_eq_true rfl)
  rw [lg_entry_eq]
  generalize (lg_sl ([.ref (h 0), .int x]) ++ List.replicate (2 - (lg_sl ([.ref (h 0), .int x])).length) Slot.unset).toArray = ls at hl ⊢
  have hl : lv_has ls 2 [(0, .ref (h 0)), (1, .int x)] := hl
  generalize hH : s.heap = H at hP ⊢
  have hS : va_S A0 s.heap H [] := by rw [← hH]; exact va_S.rf
  have hp2 : 1 ≤ 2 ^ M := Nat.one_le_two_pow
  have hp16 : 2 ^ M ≤ 16 := Nat.pow_le_pow_right (by decide) hM4
  refine lv_iload_n hx hb dX10_worth_0 rfl (lv_at hl 1 rfl) ?_
  refine lv_i2l (v := x.toInt64) hx hb dX10_worth_1 rfl ?_
  refine lv_lconst (v := 1) hx hb dX10_worth_2 rfl ?_
  refine lv_aload_n hx hb dX10_worth_3 rfl (lv_at hl 0 rfl) ?_
  refine xj_i (wc := (rW h cs I L A Q)) (wr := ([] : va_W)) hP hD hS hA [0, 1, 2, 3, 4, 5, 6, 7, 8, 9, 10, 11, 12, 13, 14, 15, 16] [] rfl rfl (by decide +kernel) (by decide +kernel) (va_runV (As := []) (rest := [.long (1 : Int64), .long x.toInt64]) ⟨hx, hb, hml, hown, hts⟩ (k_X10_whole l dC dI h cs H.size I L A Q M hM (by first | assumption | omega | exact hM1) (by first | assumption | omega | exact hM4)) (cwV 0 hts gX10_worth_X10_whole rfl rfl rfl (by decide +kernel) ⟨Nat.le_of_ble_eq_true rfl, Nat.le_of_ble_eq_true rfl⟩) (xpV (wc := (rW h cs I L A Q)) hP hD hK hN [0, 1, 2, 3, 4, 5, 6, 7, 8, 9, 10, 11, 12, 13, 14, 15, 16] rfl (by decide) 0 (ci := 10) rfl rfl _) rfl rfl hl.1 rfl (lv_room (Nat.le_of_ble_eq_true rfl)) dX10_worth_4 ⟨Nat.zero_le _, Nat.zero_le _⟩) (fun r_2 u_1 H locs hw hP hD hS => ?_)
  obtain ⟨hf_3, rfl⟩ := hw
  have hP : va_P (dC, dI) vwCl (rW h cs I L A Q) H := hP
  have hD : va_D A0 (rW h cs I L A Q) := hD
  obtain rfl := hf_3
  refine lv_i2l (v := (nI (2 ^ M - 1)).toInt64) hx hb dX10_worth_7 rfl ?_
  refine xj_i (wc := ([] : va_W)) (wr := (rW h cs I L A Q)) hP hD hS hA [] [0, 1, 2, 3, 4, 5, 6, 7, 8, 9, 10, 11, 12, 13, 14, 15, 16] rfl rfl (by decide +kernel) (by decide +kernel) (va_runS (As := [.long x.toInt64, .long (1 : Int64), .long ((nI (2 ^ M - 1)).toInt64)]) (rest := []) ⟨hx, hb, hml, hown, hts⟩ (k_X10_in l dC dI h cs H.size I L A Q x.toInt64 (1 : Int64) ((nI (2 ^ M - 1)).toInt64)) (va_cwS 3 hts gX10_worth_X10_in rfl rfl rfl (by decide +kernel) ⟨Nat.le_of_ble_eq_true rfl, Nat.le_of_ble_eq_true rfl⟩) (xpS (wc := ([] : va_W)) hP hD hK hN [] rfl (by decide) _) rfl rfl hl.1 rfl (lv_room (Nat.le_of_ble_eq_true rfl)) dX10_worth_8 ⟨Nat.zero_le _, Nat.zero_le _⟩) (fun r_5 u_4 H locs hw hP hD hS => ?_)
  obtain ⟨hf_6, rfl⟩ := hw
  have hP : va_P (dC, dI) vwCl (rW h cs I L A Q) H := hP
  have hD : va_D A0 (rW h cs I L A Q) := hD
  rcases in_N (a := 1) (b := 2 ^ M - 1) (rfl) (nI_L (by omega)) hf_6 with ⟨rfl, i_7, ha_8, hb_9, hx_10⟩ | ⟨rfl, hn_11⟩
  · skip
    rw [hx_10] at hl
    refine xs_neT (tgt := 18) hx hb dX10_worth_11 (by decide) (by decide) ?_
    refine lv_aload_n hx hb dX10_worth_18 rfl (lv_at hl 0 rfl) ?_
    refine xj_v (wc := (rW h cs I L A Q)) (wr := ([] : va_W)) hP hD hS hA [0, 1, 2, 3, 4, 5, 6, 7, 8, 9, 10, 11, 12, 13, 14, 15, 16] [] rfl rfl (by decide +kernel) (by decide +kernel) (va_runV (As := []) (rest := []) ⟨hx, hb, hml, hown, hts⟩ (k_X10_lay l dC dI h cs H.size I L A Q R M hR (by first | assumption | omega | exact hR1) (by first | assumption | omega | exact hR5) hM (by first | assumption | omega | exact hM1) (by first | assumption | omega | exact hM4)) (cwV 0 hts gX10_worth_X10_lay rfl rfl rfl (by decide +kernel) ⟨Nat.le_of_ble_eq_true rfl, Nat.le_of_ble_eq_true rfl⟩) (xpV (wc := (rW h cs I L A Q)) hP hD hK hN [0, 1, 2, 3, 4, 5, 6, 7, 8, 9, 10, 11, 12, 13, 14, 15, 16] rfl (by decide) 0 (ci := 10) rfl rfl _) rfl rfl hl.1 rfl (lv_room (Nat.le_of_ble_eq_true rfl)) dX10_worth_19 ⟨Nat.zero_le _, Nat.zero_le _⟩) (fun u_13 H locs hw hP hD hS => ?_)
    obtain ⟨f17_15, f18_16, hf_17, rfl⟩ := hw
    have hP : va_P (dC, dI) vwCl (rW h cs I L (va_up (va_up A 17 f17_15) 18 f18_16) Q) H := hP
    have hD : va_D A0 (rW h cs I L (va_up (va_up A 17 f17_15) 18 f18_16) Q) := hD
    refine lv_aload_n hx hb dX10_worth_22 rfl (lv_at hl 0 rfl) ?_
    refine lv_iload_n hx hb dX10_worth_23 rfl (lv_at hl 1 rfl) ?_
    refine xj_l (wc := (rW h cs I L (va_up (va_up A 17 f17_15) 18 f18_16) Q)) (wr := ([] : va_W)) hP hD hS hA [0, 1, 2, 3, 4, 5, 6, 7, 8, 9, 10, 11, 12, 13, 14, 15, 16] [] rfl rfl (by decide +kernel) (by decide +kernel) (va_runV (As := [.int (nI i_7)]) (rest := []) ⟨hx, hb, hml, hown, hts⟩ (k_X10_worthOf l dC dI h cs H.size I L (va_up (va_up A 17 f17_15) 18 f18_16) Q (nI i_7) M hM (by first | assumption | omega | exact hM1) (by first | assumption | omega | exact hM4)) (cwV 1 hts gX10_worth_X10_worthOf rfl rfl rfl (by decide +kernel) ⟨Nat.le_of_ble_eq_true rfl, Nat.le_of_ble_eq_true rfl⟩) (xpV (wc := (rW h cs I L (va_up (va_up A 17 f17_15) 18 f18_16) Q)) hP hD hK hN [0, 1, 2, 3, 4, 5, 6, 7, 8, 9, 10, 11, 12, 13, 14, 15, 16] rfl (by decide) 0 (ci := 10) rfl rfl _) rfl rfl hl.1 rfl (lv_room (Nat.le_of_ble_eq_true rfl)) dX10_worth_24 ⟨Nat.zero_le _, Nat.zero_le _⟩) (fun r_19 u_18 H locs hw hP hD hS => ?_)
    obtain ⟨q19_20, hf_21, rfl⟩ := hw
    have hP : va_P (dC, dI) vwCl (rW h cs I L (va_up (va_up A 17 f17_15) 18 f18_16) (va_up Q 19 q19_20)) H := hP
    have hD : va_D A0 (rW h cs I L (va_up (va_up A 17 f17_15) 18 f18_16) (va_up Q 19 q19_20)) := hD
    obtain rfl := hf_21
    exact xr_l (v := (worthF f17_15 M (nI i_7))) hx hb hr hlocks hK hS dX10_worth_27 (I, L, (va_up (va_up A 17 f17_15) 18 f18_16), (va_up Q 19 q19_20)) ⟨f17_15, f18_16, q19_20, (Or.inl ⟨i_7, ha_8, by omega, hx_10, hf_17, rfl⟩), rfl⟩ hP hD
  · skip
    refine xs_neF (tgt := 18) hx hb dX10_worth_11 (by decide) (by decide) ?_
    refine lv_ldc2 (v := (-1)) hx hb hown (hts (.constantLong RX10 185 (-1)) (by decide +kernel)) dX10_worth_14 ?_
    exact xr_l (v := (-1 : Int64)) hx hb hr hlocks hK hS dX10_worth_17 (I, L, (va_up (va_up A 17 (A 17)) 18 (A 18)), (va_up Q 19 (Q 19))) ⟨(A 17), (A 18), (Q 19), (Or.inr ⟨rfl, fun i h1 h2 => hn_11 i h1 (by omega) (by omega), rfl, rfl, rfl⟩), rfl⟩ hP hD
set_option maxRecDepth 20000 in
theorem ggX10_fractionOf_X10_whole : GoodIn wsX10_fractionOf wsX10_whole := goodIn_r _ [11, 2, 24, 25, 26, 27, 28, 29, 30, 31, 32, 33, 34, 35, 36, 37, 38, 39, 40, 41, 42, 43, 44, 45, 46, 47, 48, 49, 50, 51] rfl (by decide +kernel)
set_option maxRecDepth 20000 in
theorem gX10_fractionOf_X10_whole : GoodIn wsX10_fractionOf (wsV RX10 182 RX10 yX10_whole wsX10_whole) := goodIn_app (goodIn_of _ (by decide +kernel)) ggX10_fractionOf_X10_whole
set_option maxRecDepth 20000 in
theorem ggX10_fractionOf_X10_worthOf : GoodIn wsX10_fractionOf wsX10_worthOf := goodIn_r _ [15, 2, 5, 16, 17, 18, 10, 19, 3, 20, 21, 22, 23, 24, 25, 26, 27, 28, 29, 30, 31, 32, 33, 34, 35, 36, 37, 38, 39, 40, 41, 42, 43, 44, 45, 46, 47, 48, 49, 50, 51] rfl (by decide +kernel)
set_option maxRecDepth 20000 in
theorem gX10_fractionOf_X10_worthOf : GoodIn wsX10_fractionOf (wsV RX10 187 RX10 yX10_worthOf wsX10_worthOf) := goodIn_app (goodIn_of _ (by decide +kernel)) ggX10_fractionOf_X10_worthOf
set_option maxRecDepth 20000 in
theorem ggX10_fractionOf_X10_dot : GoodIn wsX10_fractionOf wsX10_dot := goodIn_r _ [19, 3, 24, 25, 26, 27, 28, 29, 30, 31, 32, 33, 34, 35, 36, 37, 38, 39, 40, 41, 42, 43, 44, 45, 46, 47, 48, 49, 50, 51] rfl (by decide +kernel)
set_option maxRecDepth 20000 in
theorem gX10_fractionOf_X10_dot : GoodIn wsX10_fractionOf (wsV RX10 175 RX10 yX10_dot wsX10_dot) := goodIn_app (goodIn_of _ (by decide +kernel)) ggX10_fractionOf_X10_dot
set_option maxRecDepth 20000 in
theorem ggX10_fractionOf_X10_determinant : GoodIn wsX10_fractionOf wsX10_determinant := goodIn_r _ [23, 5, 24, 25, 26, 27, 28, 29, 30, 31, 32, 33, 34, 35, 36, 37, 38, 39, 40, 41, 42, 43, 44, 45, 46, 47, 48, 49, 50, 51] rfl (by decide +kernel)
set_option maxRecDepth 20000 in
theorem gX10_fractionOf_X10_determinant : GoodIn wsX10_fractionOf (wsV RX10 178 RX10 yX10_determinant wsX10_determinant) := goodIn_app (goodIn_of _ (by decide +kernel)) ggX10_fractionOf_X10_determinant
theorem bdX10_fractionOf_0 : (decode cX10_fractionOf 0 = .ok (.aload_n 0, 1)) ∧ (decode cX10_fractionOf 1 = .ok (.aload_n 0, 1)) ∧ (decode cX10_fractionOf 2 = .ok (.aload_n 0, 1)) ∧ (decode cX10_fractionOf 3 = .ok (.invokevirtual 182, 3)) ∧ (decode cX10_fractionOf 6 = .ok (.invokevirtual 187, 3)) ∧ (decode cX10_fractionOf 9 = .ok (.putfield 190, 3)) ∧ (decode cX10_fractionOf 12 = .ok (.iconst 0, 1)) ∧ (decode cX10_fractionOf 13 = .ok (.istore_n 2, 1)) ∧ (decode cX10_fractionOf 14 = .ok (.iload_n 2, 1)) ∧ (decode cX10_fractionOf 15 = .ok (.aload_n 0, 1)) ∧ (decode cX10_fractionOf 16 = .ok (.getfield 13, 3)) ∧ (decode cX10_fractionOf 19 = .ok (.if_icmp .ge 96, 3)) ∧ (decode cX10_fractionOf 22 = .ok (.iconst 0, 1)) ∧ (decode cX10_fractionOf 23 = .ok (.istore_n 3, 1)) ∧ (decode cX10_fractionOf 24 = .ok (.iconst 0, 1)) ∧ (decode cX10_fractionOf 25 = .ok (.istore 4, 2)) := by decide +kernel
theorem dX10_fractionOf_0 : decode cX10_fractionOf 0 = .ok (.aload_n 0, 1) := bdX10_fractionOf_0.1
theorem dX10_fractionOf_1 : decode cX10_fractionOf 1 = .ok (.aload_n 0, 1) := bdX10_fractionOf_0.2.1
theorem dX10_fractionOf_2 : decode cX10_fractionOf 2 = .ok (.aload_n 0, 1) := bdX10_fractionOf_0.2.2.1
theorem dX10_fractionOf_3 : decode cX10_fractionOf 3 = .ok (.invokevirtual 182, 3) := bdX10_fractionOf_0.2.2.2.1
theorem dX10_fractionOf_6 : decode cX10_fractionOf 6 = .ok (.invokevirtual 187, 3) := bdX10_fractionOf_0.2.2.2.2.1
theorem dX10_fractionOf_9 : decode cX10_fractionOf 9 = .ok (.putfield 190, 3) := bdX10_fractionOf_0.2.2.2.2.2.1
theorem dX10_fractionOf_12 : decode cX10_fractionOf 12 = .ok (.iconst 0, 1) := bdX10_fractionOf_0.2.2.2.2.2.2.1
theorem dX10_fractionOf_13 : decode cX10_fractionOf 13 = .ok (.istore_n 2, 1) := bdX10_fractionOf_0.2.2.2.2.2.2.2.1
theorem dX10_fractionOf_14 : decode cX10_fractionOf 14 = .ok (.iload_n 2, 1) := bdX10_fractionOf_0.2.2.2.2.2.2.2.2.1
theorem dX10_fractionOf_15 : decode cX10_fractionOf 15 = .ok (.aload_n 0, 1) := bdX10_fractionOf_0.2.2.2.2.2.2.2.2.2.1
theorem dX10_fractionOf_16 : decode cX10_fractionOf 16 = .ok (.getfield 13, 3) := bdX10_fractionOf_0.2.2.2.2.2.2.2.2.2.2.1
theorem dX10_fractionOf_19 : decode cX10_fractionOf 19 = .ok (.if_icmp .ge 96, 3) := bdX10_fractionOf_0.2.2.2.2.2.2.2.2.2.2.2.1
theorem dX10_fractionOf_22 : decode cX10_fractionOf 22 = .ok (.iconst 0, 1) := bdX10_fractionOf_0.2.2.2.2.2.2.2.2.2.2.2.2.1
theorem dX10_fractionOf_23 : decode cX10_fractionOf 23 = .ok (.istore_n 3, 1) := bdX10_fractionOf_0.2.2.2.2.2.2.2.2.2.2.2.2.2.1
theorem dX10_fractionOf_24 : decode cX10_fractionOf 24 = .ok (.iconst 0, 1) := bdX10_fractionOf_0.2.2.2.2.2.2.2.2.2.2.2.2.2.2.1
theorem dX10_fractionOf_25 : decode cX10_fractionOf 25 = .ok (.istore 4, 2) := bdX10_fractionOf_0.2.2.2.2.2.2.2.2.2.2.2.2.2.2.2
theorem bdX10_fractionOf_27 : (decode cX10_fractionOf 27 = .ok (.iload 4, 2)) ∧ (decode cX10_fractionOf 29 = .ok (.iconst 5, 1)) ∧ (decode cX10_fractionOf 30 = .ok (.if_icmp .ge 31, 3)) ∧ (decode cX10_fractionOf 33 = .ok (.iload_n 3, 1)) ∧ (decode cX10_fractionOf 34 = .ok (.aload_n 0, 1)) ∧ (decode cX10_fractionOf 35 = .ok (.getfield 41, 3)) ∧ (decode cX10_fractionOf 38 = .ok (.iconst 5, 1)) ∧ (decode cX10_fractionOf 39 = .ok (.iload_n 2, 1)) ∧ (decode cX10_fractionOf 40 = .ok (.imul, 1)) ∧ (decode cX10_fractionOf 41 = .ok (.iload 4, 2)) ∧ (decode cX10_fractionOf 43 = .ok (.iadd, 1)) ∧ (decode cX10_fractionOf 44 = .ok (.iaload, 1)) ∧ (decode cX10_fractionOf 45 = .ok (.aload_n 0, 1)) ∧ (decode cX10_fractionOf 46 = .ok (.getfield 51, 3)) ∧ (decode cX10_fractionOf 49 = .ok (.iload 4, 2)) ∧ (decode cX10_fractionOf 51 = .ok (.iaload, 1)) := by decide +kernel
theorem dX10_fractionOf_27 : decode cX10_fractionOf 27 = .ok (.iload 4, 2) := bdX10_fractionOf_27.1
theorem dX10_fractionOf_29 : decode cX10_fractionOf 29 = .ok (.iconst 5, 1) := bdX10_fractionOf_27.2.1
theorem dX10_fractionOf_30 : decode cX10_fractionOf 30 = .ok (.if_icmp .ge 31, 3) := bdX10_fractionOf_27.2.2.1
theorem dX10_fractionOf_33 : decode cX10_fractionOf 33 = .ok (.iload_n 3, 1) := bdX10_fractionOf_27.2.2.2.1
theorem dX10_fractionOf_34 : decode cX10_fractionOf 34 = .ok (.aload_n 0, 1) := bdX10_fractionOf_27.2.2.2.2.1
theorem dX10_fractionOf_35 : decode cX10_fractionOf 35 = .ok (.getfield 41, 3) := bdX10_fractionOf_27.2.2.2.2.2.1
theorem dX10_fractionOf_38 : decode cX10_fractionOf 38 = .ok (.iconst 5, 1) := bdX10_fractionOf_27.2.2.2.2.2.2.1
theorem dX10_fractionOf_39 : decode cX10_fractionOf 39 = .ok (.iload_n 2, 1) := bdX10_fractionOf_27.2.2.2.2.2.2.2.1
theorem dX10_fractionOf_40 : decode cX10_fractionOf 40 = .ok (.imul, 1) := bdX10_fractionOf_27.2.2.2.2.2.2.2.2.1
theorem dX10_fractionOf_41 : decode cX10_fractionOf 41 = .ok (.iload 4, 2) := bdX10_fractionOf_27.2.2.2.2.2.2.2.2.2.1
theorem dX10_fractionOf_43 : decode cX10_fractionOf 43 = .ok (.iadd, 1) := bdX10_fractionOf_27.2.2.2.2.2.2.2.2.2.2.1
theorem dX10_fractionOf_44 : decode cX10_fractionOf 44 = .ok (.iaload, 1) := bdX10_fractionOf_27.2.2.2.2.2.2.2.2.2.2.2.1
theorem dX10_fractionOf_45 : decode cX10_fractionOf 45 = .ok (.aload_n 0, 1) := bdX10_fractionOf_27.2.2.2.2.2.2.2.2.2.2.2.2.1
theorem dX10_fractionOf_46 : decode cX10_fractionOf 46 = .ok (.getfield 51, 3) := bdX10_fractionOf_27.2.2.2.2.2.2.2.2.2.2.2.2.2.1
theorem dX10_fractionOf_49 : decode cX10_fractionOf 49 = .ok (.iload 4, 2) := bdX10_fractionOf_27.2.2.2.2.2.2.2.2.2.2.2.2.2.2.1
theorem dX10_fractionOf_51 : decode cX10_fractionOf 51 = .ok (.iaload, 1) := bdX10_fractionOf_27.2.2.2.2.2.2.2.2.2.2.2.2.2.2.2
theorem bdX10_fractionOf_52 : (decode cX10_fractionOf 52 = .ok (.imul, 1)) ∧ (decode cX10_fractionOf 53 = .ok (.iadd, 1)) ∧ (decode cX10_fractionOf 54 = .ok (.istore_n 3, 1)) ∧ (decode cX10_fractionOf 55 = .ok (.iinc 4 1, 3)) ∧ (decode cX10_fractionOf 58 = .ok (.goto (-31), 3)) ∧ (decode cX10_fractionOf 61 = .ok (.iconst 0, 1)) ∧ (decode cX10_fractionOf 62 = .ok (.istore 4, 2)) ∧ (decode cX10_fractionOf 64 = .ok (.iload 4, 2)) ∧ (decode cX10_fractionOf 66 = .ok (.aload_n 0, 1)) ∧ (decode cX10_fractionOf 67 = .ok (.getfield 13, 3)) ∧ (decode cX10_fractionOf 70 = .ok (.if_icmp .ge 39, 3)) ∧ (decode cX10_fractionOf 73 = .ok (.aload_n 0, 1)) ∧ (decode cX10_fractionOf 74 = .ok (.getfield 47, 3)) ∧ (decode cX10_fractionOf 77 = .ok (.iconst 4, 1)) ∧ (decode cX10_fractionOf 78 = .ok (.iload_n 2, 1)) ∧ (decode cX10_fractionOf 79 = .ok (.imul, 1)) := by decide +kernel
theorem dX10_fractionOf_52 : decode cX10_fractionOf 52 = .ok (.imul, 1) := bdX10_fractionOf_52.1
theorem dX10_fractionOf_53 : decode cX10_fractionOf 53 = .ok (.iadd, 1) := bdX10_fractionOf_52.2.1
theorem dX10_fractionOf_54 : decode cX10_fractionOf 54 = .ok (.istore_n 3, 1) := bdX10_fractionOf_52.2.2.1
theorem dX10_fractionOf_55 : decode cX10_fractionOf 55 = .ok (.iinc 4 1, 3) := bdX10_fractionOf_52.2.2.2.1
theorem dX10_fractionOf_58 : decode cX10_fractionOf 58 = .ok (.goto (-31), 3) := bdX10_fractionOf_52.2.2.2.2.1
theorem dX10_fractionOf_61 : decode cX10_fractionOf 61 = .ok (.iconst 0, 1) := bdX10_fractionOf_52.2.2.2.2.2.1
theorem dX10_fractionOf_62 : decode cX10_fractionOf 62 = .ok (.istore 4, 2) := bdX10_fractionOf_52.2.2.2.2.2.2.1
theorem dX10_fractionOf_64 : decode cX10_fractionOf 64 = .ok (.iload 4, 2) := bdX10_fractionOf_52.2.2.2.2.2.2.2.1
theorem dX10_fractionOf_66 : decode cX10_fractionOf 66 = .ok (.aload_n 0, 1) := bdX10_fractionOf_52.2.2.2.2.2.2.2.2.1
theorem dX10_fractionOf_67 : decode cX10_fractionOf 67 = .ok (.getfield 13, 3) := bdX10_fractionOf_52.2.2.2.2.2.2.2.2.2.1
theorem dX10_fractionOf_70 : decode cX10_fractionOf 70 = .ok (.if_icmp .ge 39, 3) := bdX10_fractionOf_52.2.2.2.2.2.2.2.2.2.2.1
theorem dX10_fractionOf_73 : decode cX10_fractionOf 73 = .ok (.aload_n 0, 1) := bdX10_fractionOf_52.2.2.2.2.2.2.2.2.2.2.2.1
theorem dX10_fractionOf_74 : decode cX10_fractionOf 74 = .ok (.getfield 47, 3) := bdX10_fractionOf_52.2.2.2.2.2.2.2.2.2.2.2.2.1
theorem dX10_fractionOf_77 : decode cX10_fractionOf 77 = .ok (.iconst 4, 1) := bdX10_fractionOf_52.2.2.2.2.2.2.2.2.2.2.2.2.2.1
theorem dX10_fractionOf_78 : decode cX10_fractionOf 78 = .ok (.iload_n 2, 1) := bdX10_fractionOf_52.2.2.2.2.2.2.2.2.2.2.2.2.2.2.1
theorem dX10_fractionOf_79 : decode cX10_fractionOf 79 = .ok (.imul, 1) := bdX10_fractionOf_52.2.2.2.2.2.2.2.2.2.2.2.2.2.2.2
theorem bdX10_fractionOf_80 : (decode cX10_fractionOf 80 = .ok (.iload 4, 2)) ∧ (decode cX10_fractionOf 82 = .ok (.iadd, 1)) ∧ (decode cX10_fractionOf 83 = .ok (.iload 4, 2)) ∧ (decode cX10_fractionOf 85 = .ok (.iload_n 1, 1)) ∧ (decode cX10_fractionOf 86 = .ok (.if_icmp .ne 8, 3)) ∧ (decode cX10_fractionOf 89 = .ok (.iload_n 3, 1)) ∧ (decode cX10_fractionOf 90 = .ok (.i2l, 1)) ∧ (decode cX10_fractionOf 91 = .ok (.goto 11, 3)) ∧ (decode cX10_fractionOf 94 = .ok (.aload_n 0, 1)) ∧ (decode cX10_fractionOf 95 = .ok (.iload_n 2, 1)) ∧ (decode cX10_fractionOf 96 = .ok (.iload 4, 2)) ∧ (decode cX10_fractionOf 98 = .ok (.invokevirtual 175, 3)) ∧ (decode cX10_fractionOf 101 = .ok (.i2l, 1)) ∧ (decode cX10_fractionOf 102 = .ok (.lastore, 1)) ∧ (decode cX10_fractionOf 103 = .ok (.iinc 4 1, 3)) ∧ (decode cX10_fractionOf 106 = .ok (.goto (-42), 3)) := by decide +kernel
theorem dX10_fractionOf_80 : decode cX10_fractionOf 80 = .ok (.iload 4, 2) := bdX10_fractionOf_80.1
theorem dX10_fractionOf_82 : decode cX10_fractionOf 82 = .ok (.iadd, 1) := bdX10_fractionOf_80.2.1
theorem dX10_fractionOf_83 : decode cX10_fractionOf 83 = .ok (.iload 4, 2) := bdX10_fractionOf_80.2.2.1
theorem dX10_fractionOf_85 : decode cX10_fractionOf 85 = .ok (.iload_n 1, 1) := bdX10_fractionOf_80.2.2.2.1
theorem dX10_fractionOf_86 : decode cX10_fractionOf 86 = .ok (.if_icmp .ne 8, 3) := bdX10_fractionOf_80.2.2.2.2.1
theorem dX10_fractionOf_89 : decode cX10_fractionOf 89 = .ok (.iload_n 3, 1) := bdX10_fractionOf_80.2.2.2.2.2.1
theorem dX10_fractionOf_90 : decode cX10_fractionOf 90 = .ok (.i2l, 1) := bdX10_fractionOf_80.2.2.2.2.2.2.1
theorem dX10_fractionOf_91 : decode cX10_fractionOf 91 = .ok (.goto 11, 3) := bdX10_fractionOf_80.2.2.2.2.2.2.2.1
theorem dX10_fractionOf_94 : decode cX10_fractionOf 94 = .ok (.aload_n 0, 1) := bdX10_fractionOf_80.2.2.2.2.2.2.2.2.1
theorem dX10_fractionOf_95 : decode cX10_fractionOf 95 = .ok (.iload_n 2, 1) := bdX10_fractionOf_80.2.2.2.2.2.2.2.2.2.1
theorem dX10_fractionOf_96 : decode cX10_fractionOf 96 = .ok (.iload 4, 2) := bdX10_fractionOf_80.2.2.2.2.2.2.2.2.2.2.1
theorem dX10_fractionOf_98 : decode cX10_fractionOf 98 = .ok (.invokevirtual 175, 3) := bdX10_fractionOf_80.2.2.2.2.2.2.2.2.2.2.2.1
theorem dX10_fractionOf_101 : decode cX10_fractionOf 101 = .ok (.i2l, 1) := bdX10_fractionOf_80.2.2.2.2.2.2.2.2.2.2.2.2.1
theorem dX10_fractionOf_102 : decode cX10_fractionOf 102 = .ok (.lastore, 1) := bdX10_fractionOf_80.2.2.2.2.2.2.2.2.2.2.2.2.2.1
theorem dX10_fractionOf_103 : decode cX10_fractionOf 103 = .ok (.iinc 4 1, 3) := bdX10_fractionOf_80.2.2.2.2.2.2.2.2.2.2.2.2.2.2.1
theorem dX10_fractionOf_106 : decode cX10_fractionOf 106 = .ok (.goto (-42), 3) := bdX10_fractionOf_80.2.2.2.2.2.2.2.2.2.2.2.2.2.2.2
theorem bdX10_fractionOf_109 : (decode cX10_fractionOf 109 = .ok (.iinc 2 1, 3)) ∧ (decode cX10_fractionOf 112 = .ok (.goto (-98), 3)) ∧ (decode cX10_fractionOf 115 = .ok (.aload_n 0, 1)) ∧ (decode cX10_fractionOf 116 = .ok (.aload_n 0, 1)) ∧ (decode cX10_fractionOf 117 = .ok (.aload_n 0, 1)) ∧ (decode cX10_fractionOf 118 = .ok (.getfield 13, 3)) ∧ (decode cX10_fractionOf 121 = .ok (.invokevirtual 178, 3)) ∧ (decode cX10_fractionOf 124 = .ok (.putfield 194, 3)) ∧ (decode cX10_fractionOf 127 = .ok (.return_, 1)) := by decide +kernel
theorem dX10_fractionOf_109 : decode cX10_fractionOf 109 = .ok (.iinc 2 1, 3) := bdX10_fractionOf_109.1
theorem dX10_fractionOf_112 : decode cX10_fractionOf 112 = .ok (.goto (-98), 3) := bdX10_fractionOf_109.2.1
theorem dX10_fractionOf_115 : decode cX10_fractionOf 115 = .ok (.aload_n 0, 1) := bdX10_fractionOf_109.2.2.1
theorem dX10_fractionOf_116 : decode cX10_fractionOf 116 = .ok (.aload_n 0, 1) := bdX10_fractionOf_109.2.2.2.1
theorem dX10_fractionOf_117 : decode cX10_fractionOf 117 = .ok (.aload_n 0, 1) := bdX10_fractionOf_109.2.2.2.2.1
theorem dX10_fractionOf_118 : decode cX10_fractionOf 118 = .ok (.getfield 13, 3) := bdX10_fractionOf_109.2.2.2.2.2.1
theorem dX10_fractionOf_121 : decode cX10_fractionOf 121 = .ok (.invokevirtual 178, 3) := bdX10_fractionOf_109.2.2.2.2.2.2.1
theorem dX10_fractionOf_124 : decode cX10_fractionOf 124 = .ok (.putfield 194, 3) := bdX10_fractionOf_109.2.2.2.2.2.2.2.1
theorem dX10_fractionOf_127 : decode cX10_fractionOf 127 = .ok (.return_, 1) := bdX10_fractionOf_109.2.2.2.2.2.2.2.2
set_option maxHeartbeats 4000000 in
set_option maxRecDepth 100000 in
theorem k_X10_fractionOf (l : Launch) (dC : Nat → ClassId) (dI : Nat → Nat → Nat) (h : Nat → Nat) (cs : Nat → ClassId) (sz : Nat) (I : Nat → Int32) (L : Nat → Int64) (A : Nat → Nat → Int32) (Q : Nat → Nat → Int64) (cl M : Nat) (hcl : cl < M) (hM : I 1 = nI M) (hM1 : 1 ≤ M) (hM4 : M ≤ 4) : Met l yX10_fractionOf wsX10_fractionOf ({ frames := 2, cells := 0, slots := 0, locals := 55 }) (va_Pc [.ref (h 0), .int (nI cl)] (xPre (dC, dI) (rW h cs I L A Q) (tysA cs) sz)) (va_Qv (fun (u : RS) => ∃ x21 : Int64, ∃ x22 : Int64, ∃ q19 : Nat → Int64, (x22 = worthF (A 17) M (nI (2 ^ M - 1)) ∧ x21 = detM M (fracM (A 17) (A 20) cl)) ∧ u = (I, (va_up (va_up L 21 x21) 22 x22), A, (va_up Q 19 q19))) (xB (dC, dI) (tysA cs) (va_A (rW h cs I L A Q) sz) (fun u : RS => rW h cs u.1 u.2.1 u.2.2.1 u.2.2.2)) (va_A (rW h cs I L A Q) sz)) 0 0 (va_A (rW h cs I L A Q) sz) := by
  refine Met.ofW (cc := cX10_fractionOf) (maxL := 5) (ret := none) (by decide) rfl ?_
  intro p e s m args below meth c s₁ B hml hv
  obtain ⟨rfl, hsz, hP, hK, hD0, hN⟩ := hv
  have hx := B.exec
  have hb := B.bytes
  have hr := B.returns
  have hts := atoms_spec (ws := wsX10_fractionOf) B.pre
  have hown : s.vm.findClass RX10 = some m.cls := findClass_of_methodNamed B.named
  have hlocks := B.notSynchronized
  subst hsz
  have hD := hD0.self (sz := s.heap.size)
  generalize hAe : va_A (rW h cs I L A Q) s.heap.size = A0 at hD ⊢
  have hA : ∀ q : Nat, s.heap.size ≤ q → A0 q := fun q h => by rw [← hAe]; exact Or.inr h
  have hl := lv_entry ([.ref (h 0), .int (nI cl)]) (n := 5) (Nat.le_of_ble_eq_true rfl)
  rw [lg_entry_eq]
  generalize (lg_sl ([.ref (h 0), .int (nI cl)]) ++ List.replicate (5 - (lg_sl ([.ref (h 0), .int (nI cl)])).length) Slot.unset).toArray = ls at hl ⊢
  have hl : lv_has ls 5 [(0, .ref (h 0)), (1, .int (nI cl))] := hl
  generalize hH : s.heap = H at hP ⊢
  have hS : va_S A0 s.heap H [] := by rw [← hH]; exact va_S.rf
  have hinX10 : ∀ w ∈ wsX100, w ∈ wsX10_fractionOf := by decide +kernel
  refine lv_aload_n hx hb dX10_fractionOf_0 rfl (lv_at hl 0 rfl) ?_
  refine lv_aload_n hx hb dX10_fractionOf_1 rfl (lv_at hl 0 rfl) ?_
  refine lv_aload_n hx hb dX10_fractionOf_2 rfl (lv_at hl 0 rfl) ?_
  refine xj_i (wc := (rW h cs I L A Q)) (wr := ([] : va_W)) hP hD hS hA [0, 1, 2, 3, 4, 5, 6, 7, 8, 9, 10, 11, 12, 13, 14, 15, 16] [] rfl rfl (by decide +kernel) (by decide +kernel) (va_runV (As := []) (rest := [.ref (h 0), .ref (h 0)]) ⟨hx, hb, hml, hown, hts⟩ (k_X10_whole l dC dI h cs H.size I L A Q M hM (by first | assumption | omega | exact hM1) (by first | assumption | omega | exact hM4)) (cwV 0 hts gX10_fractionOf_X10_whole rfl rfl rfl (by decide +kernel) ⟨Nat.le_of_ble_eq_true rfl, Nat.le_of_ble_eq_true rfl⟩) (xpV (wc := (rW h cs I L A Q)) hP hD hK hN [0, 1, 2, 3, 4, 5, 6, 7, 8, 9, 10, 11, 12, 13, 14, 15, 16] rfl (by decide) 0 (ci := 10) rfl rfl _) rfl rfl hl.1 rfl (lv_room (Nat.le_of_ble_eq_true rfl)) dX10_fractionOf_3 ⟨Nat.zero_le _, Nat.zero_le _⟩) (fun r_2 u_1 H locs hw hP hD hS => ?_)
  obtain ⟨hf_3, rfl⟩ := hw
  have hP : va_P (dC, dI) vwCl (rW h cs I L A Q) H := hP
  have hD : va_D A0 (rW h cs I L A Q) := hD
  obtain rfl := hf_3
  refine xj_l (wc := (rW h cs I L A Q)) (wr := ([] : va_W)) hP hD hS hA [0, 1, 2, 3, 4, 5, 6, 7, 8, 9, 10, 11, 12, 13, 14, 15, 16] [] rfl rfl (by decide +kernel) (by decide +kernel) (va_runV (As := [.int (nI (2 ^ M - 1))]) (rest := [.ref (h 0)]) ⟨hx, hb, hml, hown, hts⟩ (k_X10_worthOf l dC dI h cs H.size I L A Q (nI (2 ^ M - 1)) M hM (by first | assumption | omega | exact hM1) (by first | assumption | omega | exact hM4)) (cwV 1 hts gX10_fractionOf_X10_worthOf rfl rfl rfl (by decide +kernel) ⟨Nat.le_of_ble_eq_true rfl, Nat.le_of_ble_eq_true rfl⟩) (xpV (wc := (rW h cs I L A Q)) hP hD hK hN [0, 1, 2, 3, 4, 5, 6, 7, 8, 9, 10, 11, 12, 13, 14, 15, 16] rfl (by decide) 0 (ci := 10) rfl rfl _) rfl rfl hl.1 rfl (lv_room (Nat.le_of_ble_eq_true rfl)) dX10_fractionOf_6 ⟨Nat.zero_le _, Nat.zero_le _⟩) (fun r_5 u_4 H locs hw hP hD hS => ?_)
  obtain ⟨q19_6, hf_7, rfl⟩ := hw
  have hP : va_P (dC, dI) vwCl (rW h cs I L A (va_up Q 19 q19_6)) H := hP
  have hD : va_D A0 (rW h cs I L A (va_up Q 19 q19_6)) := hD
  obtain rfl := hf_7
  refine va_put (D := (dC, dI)) (ci := 10) (v := .long (worthF (A 17) M (nI (2 ^ M - 1)))) (ty := .long) (C := RX10) (T := TX10) (N := 28) hx hb hts hinX10 tyX10 tyX10_ok nmX10 hown hK hP hD hS 0 rfl rfl 22 (by decide) (hts (.fieldLink RX10 190 "MixedWordsModel" "below" "J") (by decide +kernel)) (fun _ h9 => h9) rfl (by decide +kernel) rfl rfl (Nat.le_of_ble_eq_true rfl) dX10_fractionOf_9 (fun H locs hP hD hS => ?_)
  have hP : va_P (dC, dI) vwCl (rW h cs I (va_up L 22 (worthF (A 17) M (nI (2 ^ M - 1)))) A (va_up Q 19 q19_6)) H := hP
  have hD : va_D A0 (rW h cs I (va_up L 22 (worthF (A 17) M (nI (2 ^ M - 1)))) A (va_up Q 19 q19_6)) := hD
  refine lv_iconst (v := nI 0) hx hb dX10_fractionOf_12 (by decide) ?_
  refine lv_istore_n (lv' := [(2, .int (nI 0)), (0, .ref (h 0)), (1, .int (nI cl))]) hx hb dX10_fractionOf_13 rfl hl (by decide) rfl (fun ls hl => ?_)
  have cut_14 : ∀ (nf : Nat) (i2 : Nat) (q : Nat → Int64), (M - i2) < nf → (i2 ≤ M) → (fRows (A 17) (A 20) cl M i2 0 q) → ∀ (H : Heap) (locs : List Loc) (ls : Array Slot), va_P (dC, dI) vwCl (rW h cs I (va_up L 22 (worthF (A 17) M (nI (2 ^ M - 1)))) A (va_up Q 19 q)) H → va_D A0 (rW h cs I (va_up L 22 (worthF (A 17) M (nI (2 ^ M - 1)))) A (va_up Q 19 q)) → va_S A0 s.heap H locs → lv_has ls 5 [(0, .ref (h 0)), (1, .int (nI cl)), (2, .int (nI i2))] → W p l e (headSpec wsX10_fractionOf ({ frames := 2, cells := 0, slots := 0, locals := 55 })).room s m ([.ref (h 0), .int (nI cl)] : List Value).toArray below meth c H locs 0 0 (MQ below (va_Qv (fun (u : RS) => ∃ x21 : Int64, ∃ x22 : Int64, ∃ q19 : Nat → Int64, (x22 = worthF (A 17) M (nI (2 ^ M - 1)) ∧ x21 = detM M (fracM (A 17) (A 20) cl)) ∧ u = (I, (va_up (va_up L 21 x21) 22 x22), A, (va_up Q 19 q19))) (xB (dC, dI) (tysA cs) A0 (fun u : RS => rW h cs u.1 u.2.1 u.2.2.1 u.2.2.2)) A0) ([.ref (h 0), .int (nI cl)] : List Value).toArray s 0 0 A0) (F0 m 14 ls []) := by
    intro nf
    induction nf with
    | zero => intro i2 q hm; exact absurd hm (Nat.not_lt_zero _)
    | succ nf ih_14 =>
      intro i2 q hm_14 hi_14 hq_14 H locs ls hP hD hS hl
      refine lv_iload_n hx hb dX10_fractionOf_14 rfl (lv_at hl 2 rfl) ?_
      refine lv_aload_n hx hb dX10_fractionOf_15 rfl (lv_at hl 0 rfl) ?_
      refine va_get (D := (dC, dI)) (ci := 10) (v := .int (I 1)) (C := RX10) (T := TX10) (N := 28) hx hb hts hinX10 hown hK hP 0 rfl rfl 1 (by decide) (hts (.fieldLink RX10 13 "MixedWordsModel" "columns" "I") (by decide +kernel)) (fun _ h9 => h9) rfl dX10_fractionOf_16 ?_
      refine xt_i (y := nI M) (hM) ?_
      refine xn_ge (tgt := 115) hx hb dX10_fractionOf_19 (by decide) (by omega) (by omega) (fun c_19_7 => ?_) (fun c_19_7 => ?_)
      · skip
        refine lv_aload_n hx hb dX10_fractionOf_115 rfl (lv_at hl 0 rfl) ?_
        refine lv_aload_n hx hb dX10_fractionOf_116 rfl (lv_at hl 0 rfl) ?_
        refine lv_aload_n hx hb dX10_fractionOf_117 rfl (lv_at hl 0 rfl) ?_
        refine va_get (D := (dC, dI)) (ci := 10) (v := .int (I 1)) (C := RX10) (T := TX10) (N := 28) hx hb hts hinX10 hown hK hP 0 rfl rfl 1 (by decide) (hts (.fieldLink RX10 13 "MixedWordsModel" "columns" "I") (by decide +kernel)) (fun _ h9 => h9) rfl dX10_fractionOf_118 ?_
        refine xt_i (y := nI M) (hM) ?_
        refine xj_l (wc := (rW h cs I (va_up L 22 (worthF (A 17) M (nI (2 ^ M - 1)))) A (va_up Q 19 q))) (wr := ([] : va_W)) hP hD hS hA [0, 1, 2, 3, 4, 5, 6, 7, 8, 9, 10, 11, 12, 13, 14, 15, 16] [] rfl rfl (by decide +kernel) (by decide +kernel) (va_runV (As := [.int (nI M)]) (rest := [.ref (h 0)]) ⟨hx, hb, hml, hown, hts⟩ (k_X10_determinant l dC dI h cs H.size I (va_up L 22 (worthF (A 17) M (nI (2 ^ M - 1)))) A (va_up Q 19 q) M (fracM (A 17) (A 20) cl) (by first | assumption | omega) (fun r c hr hc => hq_14 r c (by omega))) (cwV 1 hts gX10_fractionOf_X10_determinant rfl rfl rfl (by decide +kernel) ⟨Nat.le_of_ble_eq_true rfl, Nat.le_of_ble_eq_true rfl⟩) (xpV (wc := (rW h cs I (va_up L 22 (worthF (A 17) M (nI (2 ^ M - 1)))) A (va_up Q 19 q))) hP hD hK hN [0, 1, 2, 3, 4, 5, 6, 7, 8, 9, 10, 11, 12, 13, 14, 15, 16] rfl (by decide) 0 (ci := 10) rfl rfl _) rfl rfl hl.1 rfl (lv_room (Nat.le_of_ble_eq_true rfl)) dX10_fractionOf_121 ⟨Nat.zero_le _, Nat.zero_le _⟩) (fun r_10 u_9 H locs hw hP hD hS => ?_)
        obtain ⟨q19_11, hf_12, rfl⟩ := hw
        have hP : va_P (dC, dI) vwCl (rW h cs I (va_up L 22 (worthF (A 17) M (nI (2 ^ M - 1)))) A (va_up Q 19 q19_11)) H := hP
        have hD : va_D A0 (rW h cs I (va_up L 22 (worthF (A 17) M (nI (2 ^ M - 1)))) A (va_up Q 19 q19_11)) := hD
        obtain rfl := hf_12
        refine va_put (D := (dC, dI)) (ci := 10) (v := .long (detM M (fracM (A 17) (A 20) cl))) (ty := .long) (C := RX10) (T := TX10) (N := 28) hx hb hts hinX10 tyX10 tyX10_ok nmX10 hown hK hP hD hS 0 rfl rfl 21 (by decide) (hts (.fieldLink RX10 194 "MixedWordsModel" "above" "J") (by decide +kernel)) (fun _ h9 => h9) rfl (by decide +kernel) rfl rfl (Nat.le_of_ble_eq_true rfl) dX10_fractionOf_124 (fun H locs hP hD hS => ?_)
        have hP : va_P (dC, dI) vwCl (rW h cs I (va_up (va_up L 22 (worthF (A 17) M (nI (2 ^ M - 1)))) 21 (detM M (fracM (A 17) (A 20) cl))) A (va_up Q 19 q19_11)) H := hP
        have hD : va_D A0 (rW h cs I (va_up (va_up L 22 (worthF (A 17) M (nI (2 ^ M - 1)))) 21 (detM M (fracM (A 17) (A 20) cl))) A (va_up Q 19 q19_11)) := hD
        exact xr_v hx hb hr hlocks hK hS dX10_fractionOf_127 (I, (va_up (va_up L 21 (detM M (fracM (A 17) (A 20) cl))) 22 (worthF (A 17) M (nI (2 ^ M - 1)))), A, (va_up Q 19 q19_11)) ⟨(detM M (fracM (A 17) (A 20) cl)), (worthF (A 17) M (nI (2 ^ M - 1))), q19_11, ⟨rfl, rfl⟩, rfl⟩ hP hD
      · skip
        refine lv_iconst (v := nI 0) hx hb dX10_fractionOf_22 (by decide) ?_
        refine lv_istore_n (lv' := [(3, .int (nI 0)), (0, .ref (h 0)), (1, .int (nI cl)), (2, .int (nI i2))]) hx hb dX10_fractionOf_23 rfl hl (by decide) rfl (fun ls hl => ?_)
        refine lv_iconst (v := nI 0) hx hb dX10_fractionOf_24 (by decide) ?_
        refine lv_istore (lv' := [(4, .int (nI 0)), (3, .int (nI 0)), (0, .ref (h 0)), (1, .int (nI cl)), (2, .int (nI i2))]) hx hb dX10_fractionOf_25 hl (by decide) rfl (fun ls hl => ?_)
        refine lv_iload hx hb dX10_fractionOf_27 (lv_at hl 0 rfl) ?_
        refine lv_iconst (v := nI 5) hx hb dX10_fractionOf_29 (by decide) ?_
        refine xn_geF (tgt := 61) hx hb dX10_fractionOf_30 (by decide) (by omega) (by omega) (by omega) ?_
        refine lv_iload_n hx hb dX10_fractionOf_33 rfl (lv_at hl 1 rfl) ?_
        refine lv_aload_n hx hb dX10_fractionOf_34 rfl (lv_at hl 2 rfl) ?_
        refine va_get (D := (dC, dI)) (ci := 10) (v := .ref (h 17)) (C := RX10) (T := TX10) (N := 28) hx hb hts hinX10 hown hK hP 0 rfl rfl 17 (by decide) (hts (.fieldLink RX10 41 "MixedWordsModel" "cols" "[I") (by decide +kernel)) (fun _ h9 => h9) rfl dX10_fractionOf_35 ?_
        refine lv_iconst (v := nI 5) hx hb dX10_fractionOf_38 (by decide) ?_
        refine lv_iload_n hx hb dX10_fractionOf_39 rfl (lv_at hl 4 rfl) ?_
        refine lv_imul hx hb dX10_fractionOf_40 ?_
        refine xt_i (y := nI (5 * i2)) (pk_mul _ _) ?_
        refine lv_iload hx hb dX10_fractionOf_41 (lv_at hl 0 rfl) ?_
        refine lv_iadd hx hb dX10_fractionOf_43 ?_
        refine xt_i (y := nI ((5 * i2) + 0)) (nI_add _ _) ?_
        refine xa_iald hx hb hK hP 8 0 rfl rfl (by omega) (by decide) dX10_fractionOf_44 ?_
        refine lv_aload_n hx hb dX10_fractionOf_45 rfl (lv_at hl 2 rfl) ?_
        refine va_get (D := (dC, dI)) (ci := 10) (v := .ref (h 20)) (C := RX10) (T := TX10) (N := 28) hx hb hts hinX10 hown hK hP 0 rfl rfl 20 (by decide) (hts (.fieldLink RX10 51 "MixedWordsModel" "met" "[I") (by decide +kernel)) (fun _ h9 => h9) rfl dX10_fractionOf_46 ?_
        refine lv_iload hx hb dX10_fractionOf_49 (lv_at hl 0 rfl) ?_
        refine xa_iald hx hb hK hP 11 0 rfl rfl (by omega) (by decide) dX10_fractionOf_51 ?_
        refine lv_imul hx hb dX10_fractionOf_52 ?_
        refine lv_iadd hx hb dX10_fractionOf_53 ?_
        refine lv_istore_n (lv' := [(3, .int ((nI 0) + ((A 17 ((5 * i2) + 0)) * (A 20 0)))), (4, .int (nI 0)), (0, .ref (h 0)), (1, .int (nI cl)), (2, .int (nI i2))]) hx hb dX10_fractionOf_54 rfl hl (by decide) rfl (fun ls hl => ?_)
        refine lv_iinc (v := nI 1) (lv' := [(4, .int (nI 1)), (3, .int ((nI 0) + ((A 17 ((5 * i2) + 0)) * (A 20 0)))), (0, .ref (h 0)), (1, .int (nI cl)), (2, .int (nI i2))]) hx hb dX10_fractionOf_55 hl (k := 1) rfl (by decide) (by decide) rfl (fun ls hl => ?_)
        refine lv_goto (tgt := 27) hx hb dX10_fractionOf_58 (by decide) ?_
        refine lv_iload hx hb dX10_fractionOf_27 (lv_at hl 0 rfl) ?_
        refine lv_iconst (v := nI 5) hx hb dX10_fractionOf_29 (by decide) ?_
        refine xn_geF (tgt := 61) hx hb dX10_fractionOf_30 (by decide) (by omega) (by omega) (by omega) ?_
        refine lv_iload_n hx hb dX10_fractionOf_33 rfl (lv_at hl 1 rfl) ?_
        refine lv_aload_n hx hb dX10_fractionOf_34 rfl (lv_at hl 2 rfl) ?_
        refine va_get (D := (dC, dI)) (ci := 10) (v := .ref (h 17)) (C := RX10) (T := TX10) (N := 28) hx hb hts hinX10 hown hK hP 0 rfl rfl 17 (by decide) (hts (.fieldLink RX10 41 "MixedWordsModel" "cols" "[I") (by decide +kernel)) (fun _ h9 => h9) rfl dX10_fractionOf_35 ?_
        refine lv_iconst (v := nI 5) hx hb dX10_fractionOf_38 (by decide) ?_
        refine lv_iload_n hx hb dX10_fractionOf_39 rfl (lv_at hl 4 rfl) ?_
        refine lv_imul hx hb dX10_fractionOf_40 ?_
        refine xt_i (y := nI (5 * i2)) (pk_mul _ _) ?_
        refine lv_iload hx hb dX10_fractionOf_41 (lv_at hl 0 rfl) ?_
        refine lv_iadd hx hb dX10_fractionOf_43 ?_
        refine xt_i (y := nI ((5 * i2) + 1)) (nI_add _ _) ?_
        refine xa_iald hx hb hK hP 8 0 rfl rfl (by omega) (by decide) dX10_fractionOf_44 ?_
        refine lv_aload_n hx hb dX10_fractionOf_45 rfl (lv_at hl 2 rfl) ?_
        refine va_get (D := (dC, dI)) (ci := 10) (v := .ref (h 20)) (C := RX10) (T := TX10) (N := 28) hx hb hts hinX10 hown hK hP 0 rfl rfl 20 (by decide) (hts (.fieldLink RX10 51 "MixedWordsModel" "met" "[I") (by decide +kernel)) (fun _ h9 => h9) rfl dX10_fractionOf_46 ?_
        refine lv_iload hx hb dX10_fractionOf_49 (lv_at hl 0 rfl) ?_
        refine xa_iald hx hb hK hP 11 0 rfl rfl (by omega) (by decide) dX10_fractionOf_51 ?_
        refine lv_imul hx hb dX10_fractionOf_52 ?_
        refine lv_iadd hx hb dX10_fractionOf_53 ?_
        refine lv_istore_n (lv' := [(3, .int (((nI 0) + ((A 17 ((5 * i2) + 0)) * (A 20 0))) + ((A 17 ((5 * i2) + 1)) * (A 20 1)))), (4, .int (nI 1)), (0, .ref (h 0)), (1, .int (nI cl)), (2, .int (nI i2))]) hx hb dX10_fractionOf_54 rfl hl (by decide) rfl (fun ls hl => ?_)
        refine lv_iinc (v := nI 2) (lv' := [(4, .int (nI 2)), (3, .int (((nI 0) + ((A 17 ((5 * i2) + 0)) * (A 20 0))) + ((A 17 ((5 * i2) + 1)) * (A 20 1)))), (0, .ref (h 0)), (1, .int (nI cl)), (2, .int (nI i2))]) hx hb dX10_fractionOf_55 hl (k := 1) rfl (by decide) (by decide) rfl (fun ls hl => ?_)
        refine lv_goto (tgt := 27) hx hb dX10_fractionOf_58 (by decide) ?_
        refine lv_iload hx hb dX10_fractionOf_27 (lv_at hl 0 rfl) ?_
        refine lv_iconst (v := nI 5) hx hb dX10_fractionOf_29 (by decide) ?_
        refine xn_geF (tgt := 61) hx hb dX10_fractionOf_30 (by decide) (by omega) (by omega) (by omega) ?_
        refine lv_iload_n hx hb dX10_fractionOf_33 rfl (lv_at hl 1 rfl) ?_
        refine lv_aload_n hx hb dX10_fractionOf_34 rfl (lv_at hl 2 rfl) ?_
        refine va_get (D := (dC, dI)) (ci := 10) (v := .ref (h 17)) (C := RX10) (T := TX10) (N := 28) hx hb hts hinX10 hown hK hP 0 rfl rfl 17 (by decide) (hts (.fieldLink RX10 41 "MixedWordsModel" "cols" "[I") (by decide +kernel)) (fun _ h9 => h9) rfl dX10_fractionOf_35 ?_
        refine lv_iconst (v := nI 5) hx hb dX10_fractionOf_38 (by decide) ?_
        refine lv_iload_n hx hb dX10_fractionOf_39 rfl (lv_at hl 4 rfl) ?_
        refine lv_imul hx hb dX10_fractionOf_40 ?_
        refine xt_i (y := nI (5 * i2)) (pk_mul _ _) ?_
        refine lv_iload hx hb dX10_fractionOf_41 (lv_at hl 0 rfl) ?_
        refine lv_iadd hx hb dX10_fractionOf_43 ?_
        refine xt_i (y := nI ((5 * i2) + 2)) (nI_add _ _) ?_
        refine xa_iald hx hb hK hP 8 0 rfl rfl (by omega) (by decide) dX10_fractionOf_44 ?_
        refine lv_aload_n hx hb dX10_fractionOf_45 rfl (lv_at hl 2 rfl) ?_
        refine va_get (D := (dC, dI)) (ci := 10) (v := .ref (h 20)) (C := RX10) (T := TX10) (N := 28) hx hb hts hinX10 hown hK hP 0 rfl rfl 20 (by decide) (hts (.fieldLink RX10 51 "MixedWordsModel" "met" "[I") (by decide +kernel)) (fun _ h9 => h9) rfl dX10_fractionOf_46 ?_
        refine lv_iload hx hb dX10_fractionOf_49 (lv_at hl 0 rfl) ?_
        refine xa_iald hx hb hK hP 11 0 rfl rfl (by omega) (by decide) dX10_fractionOf_51 ?_
        refine lv_imul hx hb dX10_fractionOf_52 ?_
        refine lv_iadd hx hb dX10_fractionOf_53 ?_
        refine lv_istore_n (lv' := [(3, .int ((((nI 0) + ((A 17 ((5 * i2) + 0)) * (A 20 0))) + ((A 17 ((5 * i2) + 1)) * (A 20 1))) + ((A 17 ((5 * i2) + 2)) * (A 20 2)))), (4, .int (nI 2)), (0, .ref (h 0)), (1, .int (nI cl)), (2, .int (nI i2))]) hx hb dX10_fractionOf_54 rfl hl (by decide) rfl (fun ls hl => ?_)
        refine lv_iinc (v := nI 3) (lv' := [(4, .int (nI 3)), (3, .int ((((nI 0) + ((A 17 ((5 * i2) + 0)) * (A 20 0))) + ((A 17 ((5 * i2) + 1)) * (A 20 1))) + ((A 17 ((5 * i2) + 2)) * (A 20 2)))), (0, .ref (h 0)), (1, .int (nI cl)), (2, .int (nI i2))]) hx hb dX10_fractionOf_55 hl (k := 1) rfl (by decide) (by decide) rfl (fun ls hl => ?_)
        refine lv_goto (tgt := 27) hx hb dX10_fractionOf_58 (by decide) ?_
        refine lv_iload hx hb dX10_fractionOf_27 (lv_at hl 0 rfl) ?_
        refine lv_iconst (v := nI 5) hx hb dX10_fractionOf_29 (by decide) ?_
        refine xn_geF (tgt := 61) hx hb dX10_fractionOf_30 (by decide) (by omega) (by omega) (by omega) ?_
        refine lv_iload_n hx hb dX10_fractionOf_33 rfl (lv_at hl 1 rfl) ?_
        refine lv_aload_n hx hb dX10_fractionOf_34 rfl (lv_at hl 2 rfl) ?_
        refine va_get (D := (dC, dI)) (ci := 10) (v := .ref (h 17)) (C := RX10) (T := TX10) (N := 28) hx hb hts hinX10 hown hK hP 0 rfl rfl 17 (by decide) (hts (.fieldLink RX10 41 "MixedWordsModel" "cols" "[I") (by decide +kernel)) (fun _ h9 => h9) rfl dX10_fractionOf_35 ?_
        refine lv_iconst (v := nI 5) hx hb dX10_fractionOf_38 (by decide) ?_
        refine lv_iload_n hx hb dX10_fractionOf_39 rfl (lv_at hl 4 rfl) ?_
        refine lv_imul hx hb dX10_fractionOf_40 ?_
        refine xt_i (y := nI (5 * i2)) (pk_mul _ _) ?_
        refine lv_iload hx hb dX10_fractionOf_41 (lv_at hl 0 rfl) ?_
        refine lv_iadd hx hb dX10_fractionOf_43 ?_
        refine xt_i (y := nI ((5 * i2) + 3)) (nI_add _ _) ?_
        refine xa_iald hx hb hK hP 8 0 rfl rfl (by omega) (by decide) dX10_fractionOf_44 ?_
        refine lv_aload_n hx hb dX10_fractionOf_45 rfl (lv_at hl 2 rfl) ?_
        refine va_get (D := (dC, dI)) (ci := 10) (v := .ref (h 20)) (C := RX10) (T := TX10) (N := 28) hx hb hts hinX10 hown hK hP 0 rfl rfl 20 (by decide) (hts (.fieldLink RX10 51 "MixedWordsModel" "met" "[I") (by decide +kernel)) (fun _ h9 => h9) rfl dX10_fractionOf_46 ?_
        refine lv_iload hx hb dX10_fractionOf_49 (lv_at hl 0 rfl) ?_
        refine xa_iald hx hb hK hP 11 0 rfl rfl (by omega) (by decide) dX10_fractionOf_51 ?_
        refine lv_imul hx hb dX10_fractionOf_52 ?_
        refine lv_iadd hx hb dX10_fractionOf_53 ?_
        refine lv_istore_n (lv' := [(3, .int (((((nI 0) + ((A 17 ((5 * i2) + 0)) * (A 20 0))) + ((A 17 ((5 * i2) + 1)) * (A 20 1))) + ((A 17 ((5 * i2) + 2)) * (A 20 2))) + ((A 17 ((5 * i2) + 3)) * (A 20 3)))), (4, .int (nI 3)), (0, .ref (h 0)), (1, .int (nI cl)), (2, .int (nI i2))]) hx hb dX10_fractionOf_54 rfl hl (by decide) rfl (fun ls hl => ?_)
        refine lv_iinc (v := nI 4) (lv' := [(4, .int (nI 4)), (3, .int (((((nI 0) + ((A 17 ((5 * i2) + 0)) * (A 20 0))) + ((A 17 ((5 * i2) + 1)) * (A 20 1))) + ((A 17 ((5 * i2) + 2)) * (A 20 2))) + ((A 17 ((5 * i2) + 3)) * (A 20 3)))), (0, .ref (h 0)), (1, .int (nI cl)), (2, .int (nI i2))]) hx hb dX10_fractionOf_55 hl (k := 1) rfl (by decide) (by decide) rfl (fun ls hl => ?_)
        refine lv_goto (tgt := 27) hx hb dX10_fractionOf_58 (by decide) ?_
        refine lv_iload hx hb dX10_fractionOf_27 (lv_at hl 0 rfl) ?_
        refine lv_iconst (v := nI 5) hx hb dX10_fractionOf_29 (by decide) ?_
        refine xn_geF (tgt := 61) hx hb dX10_fractionOf_30 (by decide) (by omega) (by omega) (by omega) ?_
        refine lv_iload_n hx hb dX10_fractionOf_33 rfl (lv_at hl 1 rfl) ?_
        refine lv_aload_n hx hb dX10_fractionOf_34 rfl (lv_at hl 2 rfl) ?_
        refine va_get (D := (dC, dI)) (ci := 10) (v := .ref (h 17)) (C := RX10) (T := TX10) (N := 28) hx hb hts hinX10 hown hK hP 0 rfl rfl 17 (by decide) (hts (.fieldLink RX10 41 "MixedWordsModel" "cols" "[I") (by decide +kernel)) (fun _ h9 => h9) rfl dX10_fractionOf_35 ?_
        refine lv_iconst (v := nI 5) hx hb dX10_fractionOf_38 (by decide) ?_
        refine lv_iload_n hx hb dX10_fractionOf_39 rfl (lv_at hl 4 rfl) ?_
        refine lv_imul hx hb dX10_fractionOf_40 ?_
        refine xt_i (y := nI (5 * i2)) (pk_mul _ _) ?_
        refine lv_iload hx hb dX10_fractionOf_41 (lv_at hl 0 rfl) ?_
        refine lv_iadd hx hb dX10_fractionOf_43 ?_
        refine xt_i (y := nI ((5 * i2) + 4)) (nI_add _ _) ?_
        refine xa_iald hx hb hK hP 8 0 rfl rfl (by omega) (by decide) dX10_fractionOf_44 ?_
        refine lv_aload_n hx hb dX10_fractionOf_45 rfl (lv_at hl 2 rfl) ?_
        refine va_get (D := (dC, dI)) (ci := 10) (v := .ref (h 20)) (C := RX10) (T := TX10) (N := 28) hx hb hts hinX10 hown hK hP 0 rfl rfl 20 (by decide) (hts (.fieldLink RX10 51 "MixedWordsModel" "met" "[I") (by decide +kernel)) (fun _ h9 => h9) rfl dX10_fractionOf_46 ?_
        refine lv_iload hx hb dX10_fractionOf_49 (lv_at hl 0 rfl) ?_
        refine xa_iald hx hb hK hP 11 0 rfl rfl (by omega) (by decide) dX10_fractionOf_51 ?_
        refine lv_imul hx hb dX10_fractionOf_52 ?_
        refine lv_iadd hx hb dX10_fractionOf_53 ?_
        refine lv_istore_n (lv' := [(3, .int ((((((nI 0) + ((A 17 ((5 * i2) + 0)) * (A 20 0))) + ((A 17 ((5 * i2) + 1)) * (A 20 1))) + ((A 17 ((5 * i2) + 2)) * (A 20 2))) + ((A 17 ((5 * i2) + 3)) * (A 20 3))) + ((A 17 ((5 * i2) + 4)) * (A 20 4)))), (4, .int (nI 4)), (0, .ref (h 0)), (1, .int (nI cl)), (2, .int (nI i2))]) hx hb dX10_fractionOf_54 rfl hl (by decide) rfl (fun ls hl => ?_)
        refine lv_iinc (v := nI 5) (lv' := [(4, .int (nI 5)), (3, .int ((((((nI 0) + ((A 17 ((5 * i2) + 0)) * (A 20 0))) + ((A 17 ((5 * i2) + 1)) * (A 20 1))) + ((A 17 ((5 * i2) + 2)) * (A 20 2))) + ((A 17 ((5 * i2) + 3)) * (A 20 3))) + ((A 17 ((5 * i2) + 4)) * (A 20 4)))), (0, .ref (h 0)), (1, .int (nI cl)), (2, .int (nI i2))]) hx hb dX10_fractionOf_55 hl (k := 1) rfl (by decide) (by decide) rfl (fun ls hl => ?_)
        refine lv_goto (tgt := 27) hx hb dX10_fractionOf_58 (by decide) ?_
        refine lv_iload hx hb dX10_fractionOf_27 (lv_at hl 0 rfl) ?_
        refine lv_iconst (v := nI 5) hx hb dX10_fractionOf_29 (by decide) ?_
        refine xn_geT (tgt := 61) hx hb dX10_fractionOf_30 (by decide) (by omega) (by omega) (by omega) ?_
        refine lv_iconst (v := nI 0) hx hb dX10_fractionOf_61 (by decide) ?_
        refine lv_istore (lv' := [(4, .int (nI 0)), (3, .int ((((((nI 0) + ((A 17 ((5 * i2) + 0)) * (A 20 0))) + ((A 17 ((5 * i2) + 1)) * (A 20 1))) + ((A 17 ((5 * i2) + 2)) * (A 20 2))) + ((A 17 ((5 * i2) + 3)) * (A 20 3))) + ((A 17 ((5 * i2) + 4)) * (A 20 4)))), (0, .ref (h 0)), (1, .int (nI cl)), (2, .int (nI i2))]) hx hb dX10_fractionOf_62 hl (by decide) rfl (fun ls hl => ?_)
        have cut_64 : ∀ (nf : Nat) (j4 : Nat) (q2 : Nat → Int64), (M - j4) < nf → (j4 ≤ M) → (fRows (A 17) (A 20) cl M i2 j4 q2) → ∀ (H : Heap) (locs : List Loc) (ls : Array Slot), va_P (dC, dI) vwCl (rW h cs I (va_up L 22 (worthF (A 17) M (nI (2 ^ M - 1)))) A (va_up Q 19 q2)) H → va_D A0 (rW h cs I (va_up L 22 (worthF (A 17) M (nI (2 ^ M - 1)))) A (va_up Q 19 q2)) → va_S A0 s.heap H locs → lv_has ls 5 [(0, .ref (h 0)), (1, .int (nI cl)), (2, .int (nI i2)), (3, .int ((((((nI 0) + ((A 17 ((5 * i2) + 0)) * (A 20 0))) + ((A 17 ((5 * i2) + 1)) * (A 20 1))) + ((A 17 ((5 * i2) + 2)) * (A 20 2))) + ((A 17 ((5 * i2) + 3)) * (A 20 3))) + ((A 17 ((5 * i2) + 4)) * (A 20 4)))), (4, .int (nI j4))] → W p l e (headSpec wsX10_fractionOf ({ frames := 2, cells := 0, slots := 0, locals := 55 })).room s m ([.ref (h 0), .int (nI cl)] : List Value).toArray below meth c H locs 0 0 (MQ below (va_Qv (fun (u : RS) => ∃ x21 : Int64, ∃ x22 : Int64, ∃ q19 : Nat → Int64, (x22 = worthF (A 17) M (nI (2 ^ M - 1)) ∧ x21 = detM M (fracM (A 17) (A 20) cl)) ∧ u = (I, (va_up (va_up L 21 x21) 22 x22), A, (va_up Q 19 q19))) (xB (dC, dI) (tysA cs) A0 (fun u : RS => rW h cs u.1 u.2.1 u.2.2.1 u.2.2.2)) A0) ([.ref (h 0), .int (nI cl)] : List Value).toArray s 0 0 A0) (F0 m 64 ls []) := by
          intro nf
          induction nf with
          | zero => intro j4 q2 hm; exact absurd hm (Nat.not_lt_zero _)
          | succ nf ih_64 =>
            intro j4 q2 hm_64 hj_64 hq_64 H locs ls hP hD hS hl
            refine lv_iload hx hb dX10_fractionOf_64 (lv_at hl 4 rfl) ?_
            refine lv_aload_n hx hb dX10_fractionOf_66 rfl (lv_at hl 0 rfl) ?_
            refine va_get (D := (dC, dI)) (ci := 10) (v := .int (I 1)) (C := RX10) (T := TX10) (N := 28) hx hb hts hinX10 hown hK hP 0 rfl rfl 1 (by decide) (hts (.fieldLink RX10 13 "MixedWordsModel" "columns" "I") (by decide +kernel)) (fun _ h9 => h9) rfl dX10_fractionOf_67 ?_
            refine xt_i (y := nI M) (hM) ?_
            refine xn_ge (tgt := 109) hx hb dX10_fractionOf_70 (by decide) (by omega) (by omega) (fun c_70_18 => ?_) (fun c_70_18 => ?_)
            · skip
              refine lv_iinc (v := nI (i2 + 1)) (lv' := [(2, .int (nI (i2 + 1))), (0, .ref (h 0)), (1, .int (nI cl)), (3, .int ((((((nI 0) + ((A 17 ((5 * i2) + 0)) * (A 20 0))) + ((A 17 ((5 * i2) + 1)) * (A 20 1))) + ((A 17 ((5 * i2) + 2)) * (A 20 2))) + ((A 17 ((5 * i2) + 3)) * (A 20 3))) + ((A 17 ((5 * i2) + 4)) * (A 20 4)))), (4, .int (nI j4))]) hx hb dX10_fractionOf_109 hl (k := 2) rfl (nI_1 _) (by decide) rfl (fun ls hl => ?_)
              refine lv_goto (tgt := 14) hx hb dX10_fractionOf_112 (by decide) ?_
              exact ih_14 (i2 + 1) q2 (by omega) (by first | assumption | omega) (by first | (intro r c hr; omega) | exact f_up (by omega) hq_64) _ _ _ hP hD hS (lv_sub hl [1, 2, 0] rfl)
            · skip
              refine lv_aload_n hx hb dX10_fractionOf_73 rfl (lv_at hl 0 rfl) ?_
              refine va_get (D := (dC, dI)) (ci := 10) (v := .ref (h 19)) (C := RX10) (T := TX10) (N := 28) hx hb hts hinX10 hown hK hP 0 rfl rfl 19 (by decide) (hts (.fieldLink RX10 47 "MixedWordsModel" "square" "[J") (by decide +kernel)) (fun _ h9 => h9) rfl dX10_fractionOf_74 ?_
              refine lv_iconst (v := nI 4) hx hb dX10_fractionOf_77 (by decide) ?_
              refine lv_iload_n hx hb dX10_fractionOf_78 rfl (lv_at hl 2 rfl) ?_
              refine lv_imul hx hb dX10_fractionOf_79 ?_
              refine xt_i (y := nI (4 * i2)) (pk_mul _ _) ?_
              refine lv_iload hx hb dX10_fractionOf_80 (lv_at hl 4 rfl) ?_
              refine lv_iadd hx hb dX10_fractionOf_82 ?_
              refine xt_i (y := nI ((4 * i2) + j4)) (nI_add _ _) ?_
              refine lv_iload hx hb dX10_fractionOf_83 (lv_at hl 4 rfl) ?_
              refine lv_iload_n hx hb dX10_fractionOf_85 rfl (lv_at hl 1 rfl) ?_
              refine xn_ne (tgt := 94) hx hb dX10_fractionOf_86 (by decide) (by omega) (by omega) (fun c_86_19 => ?_) (fun c_86_19 => ?_)
              · skip
                refine lv_aload_n hx hb dX10_fractionOf_94 rfl (lv_at hl 0 rfl) ?_
                refine lv_iload_n hx hb dX10_fractionOf_95 rfl (lv_at hl 2 rfl) ?_
                refine lv_iload hx hb dX10_fractionOf_96 (lv_at hl 4 rfl) ?_
                refine xj_i (wc := (rW h cs I (va_up L 22 (worthF (A 17) M (nI (2 ^ M - 1)))) A (va_up Q 19 q2))) (wr := ([] : va_W)) hP hD hS hA [0, 1, 2, 3, 4, 5, 6, 7, 8, 9, 10, 11, 12, 13, 14, 15, 16] [] rfl rfl (by decide +kernel) (by decide +kernel) (va_runV (As := [.int (nI i2), .int (nI j4)]) (rest := [.int (nI ((4 * i2) + j4)), .ref (h 19)]) ⟨hx, hb, hml, hown, hts⟩ (k_X10_dot l dC dI h cs H.size I (va_up L 22 (worthF (A 17) M (nI (2 ^ M - 1)))) A (va_up Q 19 q2) i2 j4 (by first | assumption | omega) (by first | assumption | omega)) (cwV 2 hts gX10_fractionOf_X10_dot rfl rfl rfl (by decide +kernel) ⟨Nat.le_of_ble_eq_true rfl, Nat.le_of_ble_eq_true rfl⟩) (xpV (wc := (rW h cs I (va_up L 22 (worthF (A 17) M (nI (2 ^ M - 1)))) A (va_up Q 19 q2))) hP hD hK hN [0, 1, 2, 3, 4, 5, 6, 7, 8, 9, 10, 11, 12, 13, 14, 15, 16] rfl (by decide) 0 (ci := 10) rfl rfl _) rfl rfl hl.1 rfl (lv_room (Nat.le_of_ble_eq_true rfl)) dX10_fractionOf_98 ⟨Nat.zero_le _, Nat.zero_le _⟩) (fun r_22 u_21 H locs hw hP hD hS => ?_)
                obtain ⟨hf_23, rfl⟩ := hw
                have hP : va_P (dC, dI) vwCl (rW h cs I (va_up L 22 (worthF (A 17) M (nI (2 ^ M - 1)))) A (va_up Q 19 q2)) H := hP
                have hD : va_D A0 (rW h cs I (va_up L 22 (worthF (A 17) M (nI (2 ^ M - 1)))) A (va_up Q 19 q2)) := hD
                obtain rfl := hf_23
                refine lv_i2l (v := (dotF (A 17) i2 j4).toInt64) hx hb dX10_fractionOf_101 rfl ?_
                refine xa_last hx hb hK hP hD hS 10 1 rfl rfl (by omega) (by decide) dX10_fractionOf_102 (fun H locs hP hD hS => ?_)
                have hP : va_P (dC, dI) vwCl (rW h cs I (va_up L 22 (worthF (A 17) M (nI (2 ^ M - 1)))) A (va_up Q 19 (vp_updL q2 ((4 * i2) + j4) ((dotF (A 17) i2 j4).toInt64)))) H := hP
                have hD : va_D A0 (rW h cs I (va_up L 22 (worthF (A 17) M (nI (2 ^ M - 1)))) A (va_up Q 19 (vp_updL q2 ((4 * i2) + j4) ((dotF (A 17) i2 j4).toInt64)))) := hD
                refine lv_iinc (v := nI (j4 + 1)) (lv' := [(4, .int (nI (j4 + 1))), (0, .ref (h 0)), (1, .int (nI cl)), (2, .int (nI i2)), (3, .int ((((((nI 0) + ((A 17 ((5 * i2) + 0)) * (A 20 0))) + ((A 17 ((5 * i2) + 1)) * (A 20 1))) + ((A 17 ((5 * i2) + 2)) * (A 20 2))) + ((A 17 ((5 * i2) + 3)) * (A 20 3))) + ((A 17 ((5 * i2) + 4)) * (A 20 4))))]) hx hb dX10_fractionOf_103 hl (k := 4) rfl (nI_1 _) (by decide) rfl (fun ls hl => ?_)
                refine lv_goto (tgt := 64) hx hb dX10_fractionOf_106 (by decide) ?_
                exact ih_64 (j4 + 1) (vp_updL q2 ((4 * i2) + j4) ((dotF (A 17) i2 j4).toInt64)) (by omega) (by first | assumption | omega) (by first | exact hq_14 | exact f_in hM4 (by omega) (by first | (rw [fracM, if_pos (by assumption)]; rfl) | (rw [fracM, if_neg (by assumption)])) hq_64) _ _ _ hP hD hS (lv_sub hl [1, 2, 3, 4, 0] rfl)
              · skip
                refine lv_iload_n hx hb dX10_fractionOf_89 rfl (lv_at hl 3 rfl) ?_
                refine lv_i2l (v := ((((((nI 0) + ((A 17 ((5 * i2) + 0)) * (A 20 0))) + ((A 17 ((5 * i2) + 1)) * (A 20 1))) + ((A 17 ((5 * i2) + 2)) * (A 20 2))) + ((A 17 ((5 * i2) + 3)) * (A 20 3))) + ((A 17 ((5 * i2) + 4)) * (A 20 4))).toInt64) hx hb dX10_fractionOf_90 rfl ?_
                refine lv_goto (tgt := 102) hx hb dX10_fractionOf_91 (by decide) ?_
                refine xa_last hx hb hK hP hD hS 10 1 rfl rfl (by omega) (by decide) dX10_fractionOf_102 (fun H locs hP hD hS => ?_)
                have hP : va_P (dC, dI) vwCl (rW h cs I (va_up L 22 (worthF (A 17) M (nI (2 ^ M - 1)))) A (va_up Q 19 (vp_updL q2 ((4 * i2) + j4) (((((((nI 0) + ((A 17 ((5 * i2) + 0)) * (A 20 0))) + ((A 17 ((5 * i2) + 1)) * (A 20 1))) + ((A 17 ((5 * i2) + 2)) * (A 20 2))) + ((A 17 ((5 * i2) + 3)) * (A 20 3))) + ((A 17 ((5 * i2) + 4)) * (A 20 4))).toInt64)))) H := hP
                have hD : va_D A0 (rW h cs I (va_up L 22 (worthF (A 17) M (nI (2 ^ M - 1)))) A (va_up Q 19 (vp_updL q2 ((4 * i2) + j4) (((((((nI 0) + ((A 17 ((5 * i2) + 0)) * (A 20 0))) + ((A 17 ((5 * i2) + 1)) * (A 20 1))) + ((A 17 ((5 * i2) + 2)) * (A 20 2))) + ((A 17 ((5 * i2) + 3)) * (A 20 3))) + ((A 17 ((5 * i2) + 4)) * (A 20 4))).toInt64)))) := hD
                refine lv_iinc (v := nI (j4 + 1)) (lv' := [(4, .int (nI (j4 + 1))), (0, .ref (h 0)), (1, .int (nI cl)), (2, .int (nI i2)), (3, .int ((((((nI 0) + ((A 17 ((5 * i2) + 0)) * (A 20 0))) + ((A 17 ((5 * i2) + 1)) * (A 20 1))) + ((A 17 ((5 * i2) + 2)) * (A 20 2))) + ((A 17 ((5 * i2) + 3)) * (A 20 3))) + ((A 17 ((5 * i2) + 4)) * (A 20 4))))]) hx hb dX10_fractionOf_103 hl (k := 4) rfl (nI_1 _) (by decide) rfl (fun ls hl => ?_)
                refine lv_goto (tgt := 64) hx hb dX10_fractionOf_106 (by decide) ?_
                exact ih_64 (j4 + 1) (vp_updL q2 ((4 * i2) + j4) (((((((nI 0) + ((A 17 ((5 * i2) + 0)) * (A 20 0))) + ((A 17 ((5 * i2) + 1)) * (A 20 1))) + ((A 17 ((5 * i2) + 2)) * (A 20 2))) + ((A 17 ((5 * i2) + 3)) * (A 20 3))) + ((A 17 ((5 * i2) + 4)) * (A 20 4))).toInt64)) (by omega) (by first | assumption | omega) (by first | exact hq_14 | exact f_in hM4 (by omega) (by first | (rw [fracM, if_pos (by assumption)]; rfl) | (rw [fracM, if_neg (by assumption)])) hq_64) _ _ _ hP hD hS (lv_sub hl [1, 2, 3, 4, 0] rfl)
        exact cut_64 _ 0 q (Nat.lt_succ_self _) (by first | assumption | omega) (by first | exact hq_14 | exact f_in hM4 (by omega) (by first | (rw [fracM, if_pos (by assumption)]; rfl) | (rw [fracM, if_neg (by assumption)])) hq_64) _ _ _ hP hD hS (lv_sub hl [2, 3, 4, 1, 0] rfl)
  exact cut_14 _ 0 q19_6 (Nat.lt_succ_self _) (by first | assumption | omega) (by first | (intro r c hr; omega) | exact f_up (by omega) hq_64) _ _ _ hP hD hS (lv_sub hl [1, 2, 0] rfl)
set_option maxRecDepth 20000 in
theorem ggX10_undone_X10_lay : GoodIn wsX10_undone wsX10_lay := goodIn_r _ [9, 10, 1, 11, 12, 13, 49, 50, 51, 52, 53, 54, 55, 56, 57, 58, 59, 60, 61, 62, 63, 64, 65, 66, 67, 68, 69, 70, 71, 72, 73, 74, 75, 76] rfl (by decide +kernel)
set_option maxRecDepth 20000 in
theorem gX10_undone_X10_lay : GoodIn wsX10_undone (wsV RX10 172 RX10 yX10_lay wsX10_lay) := goodIn_app (goodIn_of _ (by decide +kernel)) ggX10_undone_X10_lay
set_option maxRecDepth 20000 in
theorem ggX10_undone_X10_whole : GoodIn wsX10_undone wsX10_whole := goodIn_r _ [17, 1, 49, 50, 51, 52, 53, 54, 55, 56, 57, 58, 59, 60, 61, 62, 63, 64, 65, 66, 67, 68, 69, 70, 71, 72, 73, 74, 75, 76] rfl (by decide +kernel)
set_option maxRecDepth 20000 in
theorem gX10_undone_X10_whole : GoodIn wsX10_undone (wsV RX10 182 RX10 yX10_whole wsX10_whole) := goodIn_app (goodIn_of _ (by decide +kernel)) ggX10_undone_X10_whole
set_option maxRecDepth 20000 in
theorem ggX10_undone_X10_worthOf : GoodIn wsX10_undone wsX10_worthOf := goodIn_r _ [21, 1, 22, 23, 24, 25, 8, 26, 10, 27, 28, 29, 30, 49, 50, 51, 52, 53, 54, 55, 56, 57, 58, 59, 60, 61, 62, 63, 64, 65, 66, 67, 68, 69, 70, 71, 72, 73, 74, 75, 76] rfl (by decide +kernel)
set_option maxRecDepth 20000 in
theorem gX10_undone_X10_worthOf : GoodIn wsX10_undone (wsV RX10 187 RX10 yX10_worthOf wsX10_worthOf) := goodIn_app (goodIn_of _ (by decide +kernel)) ggX10_undone_X10_worthOf
set_option maxRecDepth 20000 in
theorem ggX10_undone_X10_meetHeard : GoodIn wsX10_undone wsX10_meetHeard := goodIn_r _ [34, 35, 11, 12, 49, 50, 51, 52, 53, 54, 55, 56, 57, 58, 59, 60, 61, 62, 63, 64, 65, 66, 67, 68, 69, 70, 71, 72, 73, 74, 75, 76] rfl (by decide +kernel)
set_option maxRecDepth 20000 in
theorem gX10_undone_X10_meetHeard : GoodIn wsX10_undone (wsV RX10 197 RX10 yX10_meetHeard wsX10_meetHeard) := goodIn_app (goodIn_of _ (by decide +kernel)) ggX10_undone_X10_meetHeard
set_option maxRecDepth 20000 in
theorem ggX10_undone_X10_fractionOf : GoodIn wsX10_undone wsX10_fractionOf := goodIn_r _ [39, 4, 1, 10, 35, 22, 3, 14, 15, 16, 8, 17, 18, 19, 20, 21, 23, 24, 25, 26, 27, 28, 29, 30, 49, 50, 51, 52, 53, 54, 55, 56, 57, 58, 59, 60, 61, 62, 63, 64, 65, 66, 67, 68, 69, 70, 71, 72, 73, 74, 75, 76] rfl (by decide +kernel)
set_option maxRecDepth 20000 in
theorem gX10_undone_X10_fractionOf : GoodIn wsX10_undone (wsV RX10 200 RX10 yX10_fractionOf wsX10_fractionOf) := goodIn_app (goodIn_of _ (by decide +kernel)) ggX10_undone_X10_fractionOf
set_option maxRecDepth 20000 in
theorem ggX10_undone_X10_nearestLetter : GoodIn wsX10_undone wsX10_nearestLetter := goodIn_r _ [43, 44, 49, 50, 51, 52, 53, 54, 55, 56, 57, 58, 59, 60, 61, 62, 63, 64, 65, 66, 67, 68, 69, 70, 71, 72, 73, 74, 75, 76] rfl (by decide +kernel)
set_option maxRecDepth 20000 in
theorem gX10_undone_X10_nearestLetter : GoodIn wsX10_undone (wsV RX10 203 RX10 yX10_nearestLetter wsX10_nearestLetter) := goodIn_app (goodIn_of _ (by decide +kernel)) ggX10_undone_X10_nearestLetter
set_option maxRecDepth 20000 in
theorem ggX10_undone_X10_numberOf : GoodIn wsX10_undone wsX10_numberOf := goodIn_r _ [48, 1, 44, 49, 50, 51, 52, 53, 54, 55, 56, 57, 58, 59, 60, 61, 62, 63, 64, 65, 66, 67, 68, 69, 70, 71, 72, 73, 74, 75, 76] rfl (by decide +kernel)
set_option maxRecDepth 20000 in
theorem gX10_undone_X10_numberOf : GoodIn wsX10_undone (wsV RX10 207 RX10 yX10_numberOf wsX10_numberOf) := goodIn_app (goodIn_of _ (by decide +kernel)) ggX10_undone_X10_numberOf
theorem bdX10_undone_0 : (decode cX10_undone 0 = .ok (.aload_n 0, 1)) ∧ (decode cX10_undone 1 = .ok (.invokevirtual 172, 3)) ∧ (decode cX10_undone 4 = .ok (.aload_n 0, 1)) ∧ (decode cX10_undone 5 = .ok (.aload_n 0, 1)) ∧ (decode cX10_undone 6 = .ok (.invokevirtual 182, 3)) ∧ (decode cX10_undone 9 = .ok (.invokevirtual 187, 3)) ∧ (decode cX10_undone 12 = .ok (.lconst 0, 1)) ∧ (decode cX10_undone 13 = .ok (.lcmp, 1)) ∧ (decode cX10_undone 14 = .ok (.ifCond .ne 6, 3)) ∧ (decode cX10_undone 17 = .ok (.bipush (-2), 2)) ∧ (decode cX10_undone 19 = .ok (.ireturn, 1)) ∧ (decode cX10_undone 20 = .ok (.aload_n 0, 1)) ∧ (decode cX10_undone 21 = .ok (.invokevirtual 197, 3)) ∧ (decode cX10_undone 24 = .ok (.iconst 0, 1)) ∧ (decode cX10_undone 25 = .ok (.istore_n 1, 1)) ∧ (decode cX10_undone 26 = .ok (.iload_n 1, 1)) := by decide +kernel
theorem dX10_undone_0 : decode cX10_undone 0 = .ok (.aload_n 0, 1) := bdX10_undone_0.1
theorem dX10_undone_1 : decode cX10_undone 1 = .ok (.invokevirtual 172, 3) := bdX10_undone_0.2.1
theorem dX10_undone_4 : decode cX10_undone 4 = .ok (.aload_n 0, 1) := bdX10_undone_0.2.2.1
theorem dX10_undone_5 : decode cX10_undone 5 = .ok (.aload_n 0, 1) := bdX10_undone_0.2.2.2.1
theorem dX10_undone_6 : decode cX10_undone 6 = .ok (.invokevirtual 182, 3) := bdX10_undone_0.2.2.2.2.1
theorem dX10_undone_9 : decode cX10_undone 9 = .ok (.invokevirtual 187, 3) := bdX10_undone_0.2.2.2.2.2.1
theorem dX10_undone_12 : decode cX10_undone 12 = .ok (.lconst 0, 1) := bdX10_undone_0.2.2.2.2.2.2.1
theorem dX10_undone_13 : decode cX10_undone 13 = .ok (.lcmp, 1) := bdX10_undone_0.2.2.2.2.2.2.2.1
theorem dX10_undone_14 : decode cX10_undone 14 = .ok (.ifCond .ne 6, 3) := bdX10_undone_0.2.2.2.2.2.2.2.2.1
theorem dX10_undone_17 : decode cX10_undone 17 = .ok (.bipush (-2), 2) := bdX10_undone_0.2.2.2.2.2.2.2.2.2.1
theorem dX10_undone_19 : decode cX10_undone 19 = .ok (.ireturn, 1) := bdX10_undone_0.2.2.2.2.2.2.2.2.2.2.1
theorem dX10_undone_20 : decode cX10_undone 20 = .ok (.aload_n 0, 1) := bdX10_undone_0.2.2.2.2.2.2.2.2.2.2.2.1
theorem dX10_undone_21 : decode cX10_undone 21 = .ok (.invokevirtual 197, 3) := bdX10_undone_0.2.2.2.2.2.2.2.2.2.2.2.2.1
theorem dX10_undone_24 : decode cX10_undone 24 = .ok (.iconst 0, 1) := bdX10_undone_0.2.2.2.2.2.2.2.2.2.2.2.2.2.1
theorem dX10_undone_25 : decode cX10_undone 25 = .ok (.istore_n 1, 1) := bdX10_undone_0.2.2.2.2.2.2.2.2.2.2.2.2.2.2.1
theorem dX10_undone_26 : decode cX10_undone 26 = .ok (.iload_n 1, 1) := bdX10_undone_0.2.2.2.2.2.2.2.2.2.2.2.2.2.2.2
theorem bdX10_undone_27 : (decode cX10_undone 27 = .ok (.aload_n 0, 1)) ∧ (decode cX10_undone 28 = .ok (.getfield 13, 3)) ∧ (decode cX10_undone 31 = .ok (.if_icmp .ge 32, 3)) ∧ (decode cX10_undone 34 = .ok (.aload_n 0, 1)) ∧ (decode cX10_undone 35 = .ok (.iload_n 1, 1)) ∧ (decode cX10_undone 36 = .ok (.invokevirtual 200, 3)) ∧ (decode cX10_undone 39 = .ok (.aload_n 0, 1)) ∧ (decode cX10_undone 40 = .ok (.getfield 54, 3)) ∧ (decode cX10_undone 43 = .ok (.iload_n 1, 1)) ∧ (decode cX10_undone 44 = .ok (.aload_n 0, 1)) ∧ (decode cX10_undone 45 = .ok (.aload_n 0, 1)) ∧ (decode cX10_undone 46 = .ok (.getfield 194, 3)) ∧ (decode cX10_undone 49 = .ok (.aload_n 0, 1)) ∧ (decode cX10_undone 50 = .ok (.getfield 190, 3)) ∧ (decode cX10_undone 53 = .ok (.invokevirtual 203, 3)) ∧ (decode cX10_undone 56 = .ok (.iastore, 1)) := by decide +kernel
theorem dX10_undone_27 : decode cX10_undone 27 = .ok (.aload_n 0, 1) := bdX10_undone_27.1
theorem dX10_undone_28 : decode cX10_undone 28 = .ok (.getfield 13, 3) := bdX10_undone_27.2.1
theorem dX10_undone_31 : decode cX10_undone 31 = .ok (.if_icmp .ge 32, 3) := bdX10_undone_27.2.2.1
theorem dX10_undone_34 : decode cX10_undone 34 = .ok (.aload_n 0, 1) := bdX10_undone_27.2.2.2.1
theorem dX10_undone_35 : decode cX10_undone 35 = .ok (.iload_n 1, 1) := bdX10_undone_27.2.2.2.2.1
theorem dX10_undone_36 : decode cX10_undone 36 = .ok (.invokevirtual 200, 3) := bdX10_undone_27.2.2.2.2.2.1
theorem dX10_undone_39 : decode cX10_undone 39 = .ok (.aload_n 0, 1) := bdX10_undone_27.2.2.2.2.2.2.1
theorem dX10_undone_40 : decode cX10_undone 40 = .ok (.getfield 54, 3) := bdX10_undone_27.2.2.2.2.2.2.2.1
theorem dX10_undone_43 : decode cX10_undone 43 = .ok (.iload_n 1, 1) := bdX10_undone_27.2.2.2.2.2.2.2.2.1
theorem dX10_undone_44 : decode cX10_undone 44 = .ok (.aload_n 0, 1) := bdX10_undone_27.2.2.2.2.2.2.2.2.2.1
theorem dX10_undone_45 : decode cX10_undone 45 = .ok (.aload_n 0, 1) := bdX10_undone_27.2.2.2.2.2.2.2.2.2.2.1
theorem dX10_undone_46 : decode cX10_undone 46 = .ok (.getfield 194, 3) := bdX10_undone_27.2.2.2.2.2.2.2.2.2.2.2.1
theorem dX10_undone_49 : decode cX10_undone 49 = .ok (.aload_n 0, 1) := bdX10_undone_27.2.2.2.2.2.2.2.2.2.2.2.2.1
theorem dX10_undone_50 : decode cX10_undone 50 = .ok (.getfield 190, 3) := bdX10_undone_27.2.2.2.2.2.2.2.2.2.2.2.2.2.1
theorem dX10_undone_53 : decode cX10_undone 53 = .ok (.invokevirtual 203, 3) := bdX10_undone_27.2.2.2.2.2.2.2.2.2.2.2.2.2.2.1
theorem dX10_undone_56 : decode cX10_undone 56 = .ok (.iastore, 1) := bdX10_undone_27.2.2.2.2.2.2.2.2.2.2.2.2.2.2.2
theorem bdX10_undone_57 : (decode cX10_undone 57 = .ok (.iinc 1 1, 3)) ∧ (decode cX10_undone 60 = .ok (.goto (-34), 3)) ∧ (decode cX10_undone 63 = .ok (.aload_n 0, 1)) ∧ (decode cX10_undone 64 = .ok (.aload_n 0, 1)) ∧ (decode cX10_undone 65 = .ok (.getfield 54, 3)) ∧ (decode cX10_undone 68 = .ok (.invokevirtual 207, 3)) ∧ (decode cX10_undone 71 = .ok (.ireturn, 1)) := by decide +kernel
theorem dX10_undone_57 : decode cX10_undone 57 = .ok (.iinc 1 1, 3) := bdX10_undone_57.1
theorem dX10_undone_60 : decode cX10_undone 60 = .ok (.goto (-34), 3) := bdX10_undone_57.2.1
theorem dX10_undone_63 : decode cX10_undone 63 = .ok (.aload_n 0, 1) := bdX10_undone_57.2.2.1
theorem dX10_undone_64 : decode cX10_undone 64 = .ok (.aload_n 0, 1) := bdX10_undone_57.2.2.2.1
theorem dX10_undone_65 : decode cX10_undone 65 = .ok (.getfield 54, 3) := bdX10_undone_57.2.2.2.2.1
theorem dX10_undone_68 : decode cX10_undone 68 = .ok (.invokevirtual 207, 3) := bdX10_undone_57.2.2.2.2.2.1
theorem dX10_undone_71 : decode cX10_undone 71 = .ok (.ireturn, 1) := bdX10_undone_57.2.2.2.2.2.2
set_option maxHeartbeats 4000000 in
set_option maxRecDepth 100000 in
theorem k_X10_undone (l : Launch) (dC : Nat → ClassId) (dI : Nat → Nat → Nat) (h : Nat → Nat) (cs : Nat → ClassId) (sz : Nat) (I : Nat → Int32) (L : Nat → Int64) (A : Nat → Nat → Int32) (Q : Nat → Nat → Int64) (R M a : Nat) (hR : I 0 = nI R) (hR1 : 1 ≤ R) (hR5 : R ≤ 5) (hM : I 1 = nI M) (hM1 : 1 ≤ M) (hM4 : M ≤ 4) (ha : I 2 = nI a) (ha2 : a = 2 ∨ a = 4) : Met l yX10_undone wsX10_undone ({ frames := 3, cells := 0, slots := 0, locals := 79 }) (va_Pc [.ref (h 0)] (xPre (dC, dI) (rW h cs I L A Q) (tysA cs) sz)) (va_Qi (fun (r : Int32) (u : RS) => ∃ f17 : Nat → Int32, ∃ f18 : Nat → Int32, ∃ f20 : Nat → Int32, ∃ f23 : Nat → Int32, ∃ x21 : Int64, ∃ x22 : Int64, ∃ q19 : Nat → Int64, (laid (A 3) R M f17 f18 ∧ (worthF f17 M (nI (2 ^ M - 1)) = 0 → r = -2)) ∧ u = (I, (va_up (va_up L 21 x21) 22 x22), (va_up (va_up (va_up (va_up A 17 f17) 18 f18) 20 f20) 23 f23), (va_up Q 19 q19))) (xB (dC, dI) (tysA cs) (va_A (rW h cs I L A Q) sz) (fun u : RS => rW h cs u.1 u.2.1 u.2.2.1 u.2.2.2)) (va_A (rW h cs I L A Q) sz)) 0 0 (va_A (rW h cs I L A Q) sz) := by
  refine Met.ofW (cc := cX10_undone) (maxL := 2) (ret := (some .int)) (by decide) rfl ?_
  intro p e s m args below meth c s₁ B hml hv
  obtain ⟨rfl, hsz, hP, hK, hD0, hN⟩ := hv
  have hx := B.exec
  have hb := B.bytes
  have hr := B.returns
  have hts := atoms_spec (ws := wsX10_undone) B.pre
  have hown : s.vm.findClass RX10 = some m.cls := findClass_of_methodNamed B.named
  have hlocks := B.notSynchronized
  subst hsz
  have hD := hD0.self (sz := s.heap.size)
  generalize hAe : va_A (rW h cs I L A Q) s.heap.size = A0 at hD ⊢
  have hA : ∀ q : Nat, s.heap.size ≤ q → A0 q := fun q h => by rw [← hAe]; exact Or.inr h
  have hl := lv_entry ([.ref (h 0)]) (n := 2) (Nat.le_of_ble_eq_true rfl)
  rw [lg_entry_eq]
  generalize (lg_sl ([.ref (h 0)]) ++ List.replicate (2 - (lg_sl ([.ref (h 0)])).length) Slot.unset).toArray = ls at hl ⊢
  have hl : lv_has ls 2 [(0, .ref (h 0))] := hl
  generalize hH : s.heap = H at hP ⊢
  have hS : va_S A0 s.heap H [] := by rw [← hH]; exact va_S.rf
  have hinX10 : ∀ w ∈ wsX100, w ∈ wsX10_undone := by decide +kernel
  refine lv_aload_n hx hb dX10_undone_0 rfl (lv_at hl 0 rfl) ?_
  refine xj_v (wc := (rW h cs I L A Q)) (wr := ([] : va_W)) hP hD hS hA [0, 1, 2, 3, 4, 5, 6, 7, 8, 9, 10, 11, 12, 13, 14, 15, 16] [] rfl rfl (by decide +kernel) (by decide +kernel) (va_runV (As := []) (rest := []) ⟨hx, hb, hml, hown, hts⟩ (k_X10_lay l dC dI h cs H.size I L A Q R M hR (by first | assumption | omega | exact hR1) (by first | assumption | omega | exact hR5) hM (by first | assumption | omega | exact hM1) (by first | assumption | omega | exact hM4)) (cwV 0 hts gX10_undone_X10_lay rfl rfl rfl (by decide +kernel) ⟨Nat.le_of_ble_eq_true rfl, Nat.le_of_ble_eq_true rfl⟩) (xpV (wc := (rW h cs I L A Q)) hP hD hK hN [0, 1, 2, 3, 4, 5, 6, 7, 8, 9, 10, 11, 12, 13, 14, 15, 16] rfl (by decide) 0 (ci := 10) rfl rfl _) rfl rfl hl.1 rfl (lv_room (Nat.le_of_ble_eq_true rfl)) dX10_undone_1 ⟨Nat.zero_le _, Nat.zero_le _⟩) (fun u_1 H locs hw hP hD hS => ?_)
  obtain ⟨f17_3, f18_4, hf_5, rfl⟩ := hw
  have hP : va_P (dC, dI) vwCl (rW h cs I L (va_up (va_up A 17 f17_3) 18 f18_4) Q) H := hP
  have hD : va_D A0 (rW h cs I L (va_up (va_up A 17 f17_3) 18 f18_4) Q) := hD
  refine lv_aload_n hx hb dX10_undone_4 rfl (lv_at hl 0 rfl) ?_
  refine lv_aload_n hx hb dX10_undone_5 rfl (lv_at hl 0 rfl) ?_
  refine xj_i (wc := (rW h cs I L (va_up (va_up A 17 f17_3) 18 f18_4) Q)) (wr := ([] : va_W)) hP hD hS hA [0, 1, 2, 3, 4, 5, 6, 7, 8, 9, 10, 11, 12, 13, 14, 15, 16] [] rfl rfl (by decide +kernel) (by decide +kernel) (va_runV (As := []) (rest := [.ref (h 0)]) ⟨hx, hb, hml, hown, hts⟩ (k_X10_whole l dC dI h cs H.size I L (va_up (va_up A 17 f17_3) 18 f18_4) Q M hM (by first | assumption | omega | exact hM1) (by first | assumption | omega | exact hM4)) (cwV 0 hts gX10_undone_X10_whole rfl rfl rfl (by decide +kernel) ⟨Nat.le_of_ble_eq_true rfl, Nat.le_of_ble_eq_true rfl⟩) (xpV (wc := (rW h cs I L (va_up (va_up A 17 f17_3) 18 f18_4) Q)) hP hD hK hN [0, 1, 2, 3, 4, 5, 6, 7, 8, 9, 10, 11, 12, 13, 14, 15, 16] rfl (by decide) 0 (ci := 10) rfl rfl _) rfl rfl hl.1 rfl (lv_room (Nat.le_of_ble_eq_true rfl)) dX10_undone_6 ⟨Nat.zero_le _, Nat.zero_le _⟩) (fun r_7 u_6 H locs hw hP hD hS => ?_)
  obtain ⟨hf_8, rfl⟩ := hw
  have hP : va_P (dC, dI) vwCl (rW h cs I L (va_up (va_up A 17 f17_3) 18 f18_4) Q) H := hP
  have hD : va_D A0 (rW h cs I L (va_up (va_up A 17 f17_3) 18 f18_4) Q) := hD
  obtain rfl := hf_8
  refine xj_l (wc := (rW h cs I L (va_up (va_up A 17 f17_3) 18 f18_4) Q)) (wr := ([] : va_W)) hP hD hS hA [0, 1, 2, 3, 4, 5, 6, 7, 8, 9, 10, 11, 12, 13, 14, 15, 16] [] rfl rfl (by decide +kernel) (by decide +kernel) (va_runV (As := [.int (nI (2 ^ M - 1))]) (rest := []) ⟨hx, hb, hml, hown, hts⟩ (k_X10_worthOf l dC dI h cs H.size I L (va_up (va_up A 17 f17_3) 18 f18_4) Q (nI (2 ^ M - 1)) M hM (by first | assumption | omega | exact hM1) (by first | assumption | omega | exact hM4)) (cwV 1 hts gX10_undone_X10_worthOf rfl rfl rfl (by decide +kernel) ⟨Nat.le_of_ble_eq_true rfl, Nat.le_of_ble_eq_true rfl⟩) (xpV (wc := (rW h cs I L (va_up (va_up A 17 f17_3) 18 f18_4) Q)) hP hD hK hN [0, 1, 2, 3, 4, 5, 6, 7, 8, 9, 10, 11, 12, 13, 14, 15, 16] rfl (by decide) 0 (ci := 10) rfl rfl _) rfl rfl hl.1 rfl (lv_room (Nat.le_of_ble_eq_true rfl)) dX10_undone_9 ⟨Nat.zero_le _, Nat.zero_le _⟩) (fun r_10 u_9 H locs hw hP hD hS => ?_)
  obtain ⟨q19_11, hf_12, rfl⟩ := hw
  have hP : va_P (dC, dI) vwCl (rW h cs I L (va_up (va_up A 17 f17_3) 18 f18_4) (va_up Q 19 q19_11)) H := hP
  have hD : va_D A0 (rW h cs I L (va_up (va_up A 17 f17_3) 18 f18_4) (va_up Q 19 q19_11)) := hD
  obtain rfl := hf_12
  refine lv_lconst (v := 0) hx hb dX10_undone_12 rfl ?_
  refine xl_ne (tgt := 20) hx hb dX10_undone_13 dX10_undone_14 (by decide) (fun c_13_12 => ?_) (fun c_13_12 => ?_)
  · skip
    have hwz : ¬ worthF f17_3 M (nI (2 ^ M - 1)) = 0 := c_13_12
    refine lv_aload_n hx hb dX10_undone_20 rfl (lv_at hl 0 rfl) ?_
    refine xj_v (wc := (rW h cs I L (va_up (va_up A 17 f17_3) 18 f18_4) (va_up Q 19 q19_11))) (wr := ([] : va_W)) hP hD hS hA [0, 1, 2, 3, 4, 5, 6, 7, 8, 9, 10, 11, 12, 13, 14, 15, 16] [] rfl rfl (by decide +kernel) (by decide +kernel) (va_runV (As := []) (rest := []) ⟨hx, hb, hml, hown, hts⟩ (k_X10_meetHeard l dC dI h cs H.size I L (va_up (va_up A 17 f17_3) 18 f18_4) (va_up Q 19 q19_11) R hR (by first | assumption | omega | exact hR1) (by first | assumption | omega | exact hR5)) (cwV 0 hts gX10_undone_X10_meetHeard rfl rfl rfl (by decide +kernel) ⟨Nat.le_of_ble_eq_true rfl, Nat.le_of_ble_eq_true rfl⟩) (xpV (wc := (rW h cs I L (va_up (va_up A 17 f17_3) 18 f18_4) (va_up Q 19 q19_11))) hP hD hK hN [0, 1, 2, 3, 4, 5, 6, 7, 8, 9, 10, 11, 12, 13, 14, 15, 16] rfl (by decide) 0 (ci := 10) rfl rfl _) rfl rfl hl.1 rfl (lv_room (Nat.le_of_ble_eq_true rfl)) dX10_undone_21 ⟨Nat.zero_le _, Nat.zero_le _⟩) (fun u_14 H locs hw hP hD hS => ?_)
    obtain ⟨f20_16, hf_17, rfl⟩ := hw
    have hP : va_P (dC, dI) vwCl (rW h cs I L (va_up (va_up (va_up A 17 f17_3) 18 f18_4) 20 f20_16) (va_up Q 19 q19_11)) H := hP
    have hD : va_D A0 (rW h cs I L (va_up (va_up (va_up A 17 f17_3) 18 f18_4) 20 f20_16) (va_up Q 19 q19_11)) := hD
    refine lv_iconst (v := nI 0) hx hb dX10_undone_24 (by decide) ?_
    refine lv_istore_n (lv' := [(1, .int (nI 0)), (0, .ref (h 0))]) hx hb dX10_undone_25 rfl hl (by decide) rfl (fun ls hl => ?_)
    have cut_26 : ∀ (nf : Nat) (k : Nat) (le : Nat → Int32) (y21 : Int64) (y22 : Int64) (q : Nat → Int64), (M - k) < nf → (k ≤ M) → ∀ (H : Heap) (locs : List Loc) (ls : Array Slot), va_P (dC, dI) vwCl (rW h cs I (va_up (va_up L 21 y21) 22 y22) (va_up (va_up (va_up (va_up A 17 f17_3) 18 f18_4) 20 f20_16) 23 le) (va_up Q 19 q)) H → va_D A0 (rW h cs I (va_up (va_up L 21 y21) 22 y22) (va_up (va_up (va_up (va_up A 17 f17_3) 18 f18_4) 20 f20_16) 23 le) (va_up Q 19 q)) → va_S A0 s.heap H locs → lv_has ls 2 [(0, .ref (h 0)), (1, .int (nI k))] → W p l e (headSpec wsX10_undone ({ frames := 3, cells := 0, slots := 0, locals := 79 })).room s m ([.ref (h 0)] : List Value).toArray below meth c H locs 0 0 (MQ below (va_Qi (fun (r : Int32) (u : RS) => ∃ f17 : Nat → Int32, ∃ f18 : Nat → Int32, ∃ f20 : Nat → Int32, ∃ f23 : Nat → Int32, ∃ x21 : Int64, ∃ x22 : Int64, ∃ q19 : Nat → Int64, (laid (A 3) R M f17 f18 ∧ (worthF f17 M (nI (2 ^ M - 1)) = 0 → r = -2)) ∧ u = (I, (va_up (va_up L 21 x21) 22 x22), (va_up (va_up (va_up (va_up A 17 f17) 18 f18) 20 f20) 23 f23), (va_up Q 19 q19))) (xB (dC, dI) (tysA cs) A0 (fun u : RS => rW h cs u.1 u.2.1 u.2.2.1 u.2.2.2)) A0) ([.ref (h 0)] : List Value).toArray s 0 0 A0) (F0 m 26 ls []) := by
      intro nf
      induction nf with
      | zero => intro k le y21 y22 q hm; exact absurd hm (Nat.not_lt_zero _)
      | succ nf ih_26 =>
        intro k le y21 y22 q hm_26 hk_26 H locs ls hP hD hS hl
        refine lv_iload_n hx hb dX10_undone_26 rfl (lv_at hl 1 rfl) ?_
        refine lv_aload_n hx hb dX10_undone_27 rfl (lv_at hl 0 rfl) ?_
        refine va_get (D := (dC, dI)) (ci := 10) (v := .int (I 1)) (C := RX10) (T := TX10) (N := 28) hx hb hts hinX10 hown hK hP 0 rfl rfl 1 (by decide) (hts (.fieldLink RX10 13 "MixedWordsModel" "columns" "I") (by decide +kernel)) (fun _ h9 => h9) rfl dX10_undone_28 ?_
        refine xt_i (y := nI M) (hM) ?_
        refine xn_ge (tgt := 63) hx hb dX10_undone_31 (by decide) (by omega) (by omega) (fun c_31_17 => ?_) (fun c_31_17 => ?_)
        · skip
          refine lv_aload_n hx hb dX10_undone_63 rfl (lv_at hl 0 rfl) ?_
          refine lv_aload_n hx hb dX10_undone_64 rfl (lv_at hl 0 rfl) ?_
          refine va_get (D := (dC, dI)) (ci := 10) (v := .ref (h 23)) (C := RX10) (T := TX10) (N := 28) hx hb hts hinX10 hown hK hP 0 rfl rfl 23 (by decide) (hts (.fieldLink RX10 54 "MixedWordsModel" "letters" "[I") (by decide +kernel)) (fun _ h9 => h9) rfl dX10_undone_65 ?_
          refine xj_i (wc := (rW h cs I (va_up (va_up L 21 y21) 22 y22) (va_up (va_up (va_up (va_up A 17 f17_3) 18 f18_4) 20 f20_16) 23 le) (va_up Q 19 q))) (wr := ([] : va_W)) hP hD hS hA [0, 1, 2, 3, 4, 5, 6, 7, 8, 9, 10, 11, 12, 13, 14, 15, 16] [] rfl rfl (by decide +kernel) (by decide +kernel) (va_runV (As := [.ref (h 23)]) (rest := []) ⟨hx, hb, hml, hown, hts⟩ (k_X10_numberOf l dC dI h cs H.size I (va_up (va_up L 21 y21) 22 y22) (va_up (va_up (va_up (va_up A 17 f17_3) 18 f18_4) 20 f20_16) 23 le) (va_up Q 19 q) M a hM (by first | assumption | omega | exact hM1) (by first | assumption | omega | exact hM4) ha (by first | assumption | omega | exact ha2)) (cwV 1 hts gX10_undone_X10_numberOf rfl rfl rfl (by decide +kernel) ⟨Nat.le_of_ble_eq_true rfl, Nat.le_of_ble_eq_true rfl⟩) (xpV (wc := (rW h cs I (va_up (va_up L 21 y21) 22 y22) (va_up (va_up (va_up (va_up A 17 f17_3) 18 f18_4) 20 f20_16) 23 le) (va_up Q 19 q))) hP hD hK hN [0, 1, 2, 3, 4, 5, 6, 7, 8, 9, 10, 11, 12, 13, 14, 15, 16] rfl (by decide) 0 (ci := 10) rfl rfl _) rfl rfl hl.1 rfl (lv_room (Nat.le_of_ble_eq_true rfl)) dX10_undone_68 ⟨Nat.zero_le _, Nat.zero_le _⟩) (fun r_20 u_19 H locs hw hP hD hS => ?_)
          obtain ⟨hf_21, rfl⟩ := hw
          have hP : va_P (dC, dI) vwCl (rW h cs I (va_up (va_up L 21 y21) 22 y22) (va_up (va_up (va_up (va_up A 17 f17_3) 18 f18_4) 20 f20_16) 23 le) (va_up Q 19 q)) H := hP
          have hD : va_D A0 (rW h cs I (va_up (va_up L 21 y21) 22 y22) (va_up (va_up (va_up (va_up A 17 f17_3) 18 f18_4) 20 f20_16) 23 le) (va_up Q 19 q)) := hD
          obtain rfl := hf_21
          exact xr_i (v := (numF le a M)) hx hb hr hlocks hK hS dX10_undone_71 (I, (va_up (va_up L 21 y21) 22 y22), (va_up (va_up (va_up (va_up A 17 f17_3) 18 f18_4) 20 f20_16) 23 le), (va_up Q 19 q)) ⟨f17_3, f18_4, f20_16, le, y21, y22, q, ⟨hf_5, fun g => absurd g hwz⟩, rfl⟩ hP hD
        · skip
          refine lv_aload_n hx hb dX10_undone_34 rfl (lv_at hl 0 rfl) ?_
          refine lv_iload_n hx hb dX10_undone_35 rfl (lv_at hl 1 rfl) ?_
          refine xj_v (wc := (rW h cs I (va_up (va_up L 21 y21) 22 y22) (va_up (va_up (va_up (va_up A 17 f17_3) 18 f18_4) 20 f20_16) 23 le) (va_up Q 19 q))) (wr := ([] : va_W)) hP hD hS hA [0, 1, 2, 3, 4, 5, 6, 7, 8, 9, 10, 11, 12, 13, 14, 15, 16] [] rfl rfl (by decide +kernel) (by decide +kernel) (va_runV (As := [.int (nI k)]) (rest := []) ⟨hx, hb, hml, hown, hts⟩ (k_X10_fractionOf l dC dI h cs H.size I (va_up (va_up L 21 y21) 22 y22) (va_up (va_up (va_up (va_up A 17 f17_3) 18 f18_4) 20 f20_16) 23 le) (va_up Q 19 q) k M (by first | assumption | omega) hM (by first | assumption | omega | exact hM1) (by first | assumption | omega | exact hM4)) (cwV 1 hts gX10_undone_X10_fractionOf rfl rfl rfl (by decide +kernel) ⟨Nat.le_of_ble_eq_true rfl, Nat.le_of_ble_eq_true rfl⟩) (xpV (wc := (rW h cs I (va_up (va_up L 21 y21) 22 y22) (va_up (va_up (va_up (va_up A 17 f17_3) 18 f18_4) 20 f20_16) 23 le) (va_up Q 19 q))) hP hD hK hN [0, 1, 2, 3, 4, 5, 6, 7, 8, 9, 10, 11, 12, 13, 14, 15, 16] rfl (by decide) 0 (ci := 10) rfl rfl _) rfl rfl hl.1 rfl (lv_room (Nat.le_of_ble_eq_true rfl)) dX10_undone_36 ⟨Nat.zero_le _, Nat.zero_le _⟩) (fun u_22 H locs hw hP hD hS => ?_)
          obtain ⟨x21_24, x22_25, q19_26, hf_27, rfl⟩ := hw
          have hP : va_P (dC, dI) vwCl (rW h cs I (va_up (va_up L 21 x21_24) 22 x22_25) (va_up (va_up (va_up (va_up A 17 f17_3) 18 f18_4) 20 f20_16) 23 le) (va_up Q 19 q19_26)) H := hP
          have hD : va_D A0 (rW h cs I (va_up (va_up L 21 x21_24) 22 x22_25) (va_up (va_up (va_up (va_up A 17 f17_3) 18 f18_4) 20 f20_16) 23 le) (va_up Q 19 q19_26)) := hD
          obtain ⟨rfl, rfl⟩ := hf_27
          refine lv_aload_n hx hb dX10_undone_39 rfl (lv_at hl 0 rfl) ?_
          refine va_get (D := (dC, dI)) (ci := 10) (v := .ref (h 23)) (C := RX10) (T := TX10) (N := 28) hx hb hts hinX10 hown hK hP 0 rfl rfl 23 (by decide) (hts (.fieldLink RX10 54 "MixedWordsModel" "letters" "[I") (by decide +kernel)) (fun _ h9 => h9) rfl dX10_undone_40 ?_
          refine lv_iload_n hx hb dX10_undone_43 rfl (lv_at hl 1 rfl) ?_
          refine lv_aload_n hx hb dX10_undone_44 rfl (lv_at hl 0 rfl) ?_
          refine lv_aload_n hx hb dX10_undone_45 rfl (lv_at hl 0 rfl) ?_
          refine va_get (D := (dC, dI)) (ci := 10) (v := .long (detM M (fracM f17_3 f20_16 k))) (C := RX10) (T := TX10) (N := 28) hx hb hts hinX10 hown hK hP 0 rfl rfl 21 (by decide) (hts (.fieldLink RX10 194 "MixedWordsModel" "above" "J") (by decide +kernel)) (fun _ h9 => h9) rfl dX10_undone_46 ?_
          refine lv_aload_n hx hb dX10_undone_49 rfl (lv_at hl 0 rfl) ?_
          refine va_get (D := (dC, dI)) (ci := 10) (v := .long (worthF f17_3 M (nI (2 ^ M - 1)))) (C := RX10) (T := TX10) (N := 28) hx hb hts hinX10 hown hK hP 0 rfl rfl 22 (by decide) (hts (.fieldLink RX10 190 "MixedWordsModel" "below" "J") (by decide +kernel)) (fun _ h9 => h9) rfl dX10_undone_50 ?_
          refine xj_i (wc := (rW h cs I (va_up (va_up L 22 (worthF f17_3 M (nI (2 ^ M - 1)))) 21 (detM M (fracM f17_3 f20_16 k))) (va_up (va_up (va_up (va_up A 17 f17_3) 18 f18_4) 20 f20_16) 23 le) (va_up Q 19 q19_26))) (wr := ([] : va_W)) hP hD hS hA [0, 1, 2, 3, 4, 5, 6, 7, 8, 9, 10, 11, 12, 13, 14, 15, 16] [] rfl rfl (by decide +kernel) (by decide +kernel) (va_runV (As := [.long (detM M (fracM f17_3 f20_16 k)), .long (worthF f17_3 M (nI (2 ^ M - 1)))]) (rest := [.int (nI k), .ref (h 23)]) ⟨hx, hb, hml, hown, hts⟩ (k_X10_nearestLetter l dC dI h cs H.size I (va_up (va_up L 22 (worthF f17_3 M (nI (2 ^ M - 1)))) 21 (detM M (fracM f17_3 f20_16 k))) (va_up (va_up (va_up (va_up A 17 f17_3) 18 f18_4) 20 f20_16) 23 le) (va_up Q 19 q19_26) (detM M (fracM f17_3 f20_16 k)) (worthF f17_3 M (nI (2 ^ M - 1))) a ha (by first | assumption | omega | exact ha2)) (cwV 2 hts gX10_undone_X10_nearestLetter rfl rfl rfl (by decide +kernel) ⟨Nat.le_of_ble_eq_true rfl, Nat.le_of_ble_eq_true rfl⟩) (xpV (wc := (rW h cs I (va_up (va_up L 22 (worthF f17_3 M (nI (2 ^ M - 1)))) 21 (detM M (fracM f17_3 f20_16 k))) (va_up (va_up (va_up (va_up A 17 f17_3) 18 f18_4) 20 f20_16) 23 le) (va_up Q 19 q19_26))) hP hD hK hN [0, 1, 2, 3, 4, 5, 6, 7, 8, 9, 10, 11, 12, 13, 14, 15, 16] rfl (by decide) 0 (ci := 10) rfl rfl _) rfl rfl hl.1 rfl (lv_room (Nat.le_of_ble_eq_true rfl)) dX10_undone_53 ⟨Nat.zero_le _, Nat.zero_le _⟩) (fun r_29 u_28 H locs hw hP hD hS => ?_)
          obtain ⟨hf_30, rfl⟩ := hw
          have hP : va_P (dC, dI) vwCl (rW h cs I (va_up (va_up L 22 (worthF f17_3 M (nI (2 ^ M - 1)))) 21 (detM M (fracM f17_3 f20_16 k))) (va_up (va_up (va_up (va_up A 17 f17_3) 18 f18_4) 20 f20_16) 23 le) (va_up Q 19 q19_26)) H := hP
          have hD : va_D A0 (rW h cs I (va_up (va_up L 22 (worthF f17_3 M (nI (2 ^ M - 1)))) 21 (detM M (fracM f17_3 f20_16 k))) (va_up (va_up (va_up (va_up A 17 f17_3) 18 f18_4) 20 f20_16) 23 le) (va_up Q 19 q19_26)) := hD
          obtain rfl := hf_30
          refine xa_iast hx hb hK hP hD hS 12 0 rfl rfl (by omega) (by decide) dX10_undone_56 (fun H locs hP hD hS => ?_)
          have hP : va_P (dC, dI) vwCl (rW h cs I (va_up (va_up L 22 (worthF f17_3 M (nI (2 ^ M - 1)))) 21 (detM M (fracM f17_3 f20_16 k))) (va_up (va_up (va_up (va_up A 17 f17_3) 18 f18_4) 20 f20_16) 23 (upd le k (nlG (detM M (fracM f17_3 f20_16 k)) (worthF f17_3 M (nI (2 ^ M - 1))) a (a - 1)))) (va_up Q 19 q19_26)) H := hP
          have hD : va_D A0 (rW h cs I (va_up (va_up L 22 (worthF f17_3 M (nI (2 ^ M - 1)))) 21 (detM M (fracM f17_3 f20_16 k))) (va_up (va_up (va_up (va_up A 17 f17_3) 18 f18_4) 20 f20_16) 23 (upd le k (nlG (detM M (fracM f17_3 f20_16 k)) (worthF f17_3 M (nI (2 ^ M - 1))) a (a - 1)))) (va_up Q 19 q19_26)) := hD
          refine lv_iinc (v := nI (k + 1)) (lv' := [(1, .int (nI (k + 1))), (0, .ref (h 0))]) hx hb dX10_undone_57 hl (k := 1) rfl (nI_1 _) (by decide) rfl (fun ls hl => ?_)
          refine lv_goto (tgt := 26) hx hb dX10_undone_60 (by decide) ?_
          exact ih_26 (k + 1) (upd le k (nlG (detM M (fracM f17_3 f20_16 k)) (worthF f17_3 M (nI (2 ^ M - 1))) a (a - 1))) (detM M (fracM f17_3 f20_16 k)) (worthF f17_3 M (nI (2 ^ M - 1))) q19_26 (by omega) (by first | assumption | omega) _ _ _ hP hD hS (lv_sub hl [1, 0] rfl)
    exact cut_26 _ 0 (A 23) (L 21) (L 22) q19_11 (Nat.lt_succ_self _) (by first | assumption | omega) _ _ _ hP hD hS (lv_sub hl [1, 0] rfl)
  · skip
    refine lv_bipush (v := (-2)) hx hb dX10_undone_17 (by decide) ?_
    exact xr_i (v := (-2)) hx hb hr hlocks hK hS dX10_undone_19 (I, (va_up (va_up L 21 (L 21)) 22 (L 22)), (va_up (va_up (va_up (va_up A 17 f17_3) 18 f18_4) 20 (A 20)) 23 (A 23)), (va_up Q 19 q19_11)) ⟨f17_3, f18_4, (A 20), (A 23), (L 21), (L 22), q19_11, ⟨hf_5, fun _ => rfl⟩, rfl⟩ hP hD
