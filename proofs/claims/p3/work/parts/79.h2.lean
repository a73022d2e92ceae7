theorem digV_rng {t : Nat → Int32} {b : Nat} : ∀ k : Nat, (∀ u : Nat, b ≤ u → u < b + k → IsDig (t u)) → 0 ≤ (digV t b k).toInt ∧ (digV t b k).toInt ≤ 99
  | 0, _ => by
    rw [digV]
    decide
  | k + 1, h => by
    have ih := digV_rng k (fun u h1 h2 => h u h1 (by omega))
    have hd : IsDig (t (b + k)) := h (b + k) (by omega) (by omega)
    unfold IsDig at hd
    have z9 : (nI 9).toInt = 9 := by decide
    have z10 : (nI 10).toInt = 10 := by decide
    have z48 : (nI 48).toInt = 48 := by decide
    rw [digV]
    split
    · rename_i g
      rw [Int32.le_iff_toInt_le, z9] at g
      have m1 := (mul32 (x := nI 10) (y := digV t b k) (a := 10) (b := 99) (by rw [z10]; decide) (by omega) (by decide)).1
      rw [z10] at m1
      have a1 := add32 (x := nI 10 * digV t b k) (y := t (b + k)) (by omega)
      have a2 := sub32 (x := nI 10 * digV t b k + t (b + k)) (y := nI 48) (by omega)
      omega
    · exact ih
theorem wrg_n {w : Int32} {q : Nat} (hq : q < 2147483648) : ¬ wrg w q < 0 := by
  unfold wrg
  split
  · exact nI_pos (show q < 2 ^ 31 by omega)
  · assumption
theorem wrg_e {w x : Int32} {q : Nat} (hq : q < 2147483648) (h : x = if w < 0 then nI q else w) : ¬ x < 0 := by
  rw [h]
  exact wrg_n hq
theorem numP_ok {t : Nat → Int32} {T a a2 : Nat} {w w2 v : Int32} (hT : T ≤ 90) (h : numP t T a w a2 w2 v) (hw : w2 < 0) : w < 0 ∧ b9 v := by
  obtain ⟨j1, j2, ng, -, -, hs, ⟨-, -, e, -⟩ | ⟨-, j3, hd, -, e, ev⟩⟩ := h
  · have := hs.2.1
    rw [e] at hw
    exact absurd hw (wrg_n (by omega))
  · have h2 := hs.2.1
    have hr := digV_rng (t := t) (b := j2) (j3 - j2) (fun u h1 h3 => hd.2.2.1 u h1 (by have := hd.1; omega))
    have z9 : (nI 9).toInt = 9 := by decide
    by_cases g : digV t j2 (j3 - j2) ≤ nI 9
    · rw [if_pos g] at e
      rw [Int32.le_iff_toInt_le, z9] at g
      refine ⟨e ▸ hw, ?_⟩
      rw [ev]
      unfold b9
      split
      · rw [neg32 (by omega)]
        omega
      · omega
    · rw [if_neg g] at e
      rw [e] at hw
      exact absurd hw (wrg_n (by omega))
theorem rowS_ok {t : Nat → Int32} {T mo a0 : Nat} {w0 : Int32} (hT : T ≤ 90) : ∀ (n a : Nat) (w : Int32) (vs : Nat → Int32) (more : Bool), rowS t T mo a0 w0 n a w vs more → w < 0 → ∀ i : Nat, i < n → b9 (vs i)
  | 0, _, _, _, _, _, _ => fun i hi => absurd hi (Nat.not_lt_zero i)
  | n + 1, a, w, vs, more, h, hw => fun i hi => by
    obtain ⟨ap, wp, vp, hr, an, v, hn, hvs, hv, -⟩ := h
    obtain ⟨hwp, hb⟩ := numP_ok hT hn hw
    by_cases e : i = n
    · rw [e, hv]
      exact hb
    · rw [hvs i (by omega)]
      exact rowS_ok hT n ap wp vp true hr hwp i (by omega)
theorem rd_b {f g : Nat → Int32} {rr cc n : Nat} (hk : ∀ q : Nat, q < 4 * rr → f q = g q) (ho : ∀ i j : Nat, i < rr → j < cc → b9 (g (4 * i + j))) (hr : ∀ i : Nat, i < n → b9 (f (4 * rr + i))) (hc : cc ≤ n) (hn : n ≤ 4) : ∀ i j : Nat, i < rr + 1 → j < cc → b9 (f (4 * i + j)) := fun i j hi hj => by
  by_cases e : i = rr
  · rw [e]
    exact hr j (by omega)
  · rw [hk (4 * i + j) (by omega)]
    exact ho i j (by omega) hj
theorem b9_upd {t : Nat → Int32} {p : Nat} {v : Int32} (h : ∀ q : Nat, q < 25 → b9 (t q)) (hv : b9 v) : ∀ q : Nat, q < 25 → b9 (upd t p v q) := fun q hq => by
  by_cases e : q = p
  · rw [e, pk_us]
    exact hv
  · rw [pk_un e]
    exact h q hq
theorem b9_0 {t : Nat → Int32} (h : ∀ q : Nat, q < 25 → t q = nI 0) : ∀ q : Nat, q < 25 → b9 (t q) := fun q hq => by
  rw [h q hq]
  unfold b9
  decide
set_option maxRecDepth 20000 in
theorem ggX10_read_X10_row : GoodIn wsX10_read wsX10_row := goodIn_r _ [14, 9, 3, 2, 1, 15, 16, 17, 13, 18, 19, 20, 5, 21, 22, 23, 24, 25, 26, 27, 28, 29, 30, 31, 32, 49, 50, 51, 52, 53, 54, 55, 56, 57, 58, 59, 60, 61, 62, 63, 64, 65, 66, 67, 68, 69, 70, 71, 72, 73, 74, 75, 76] (by decide +kernel) (by decide +kernel)
set_option maxRecDepth 20000 in
theorem gX10_read_X10_row : GoodIn wsX10_read (wsV RX10 146 RX10 yX10_row wsX10_row) := goodIn_app (goodIn_of _ (by decide +kernel)) ggX10_read_X10_row
set_option maxRecDepth 20000 in
theorem ggX10_read_X10_fails : GoodIn wsX10_read wsX10_fails := goodIn_r _ [32, 2, 49, 50, 51, 52, 53, 54, 55, 56, 57, 58, 59, 60, 61, 62, 63, 64, 65, 66, 67, 68, 69, 70, 71, 72, 73, 74, 75, 76] (by decide +kernel) (by decide +kernel)
set_option maxRecDepth 20000 in
theorem gX10_read_X10_fails : GoodIn wsX10_read (wsV RX10 133 RX10 yX10_fails wsX10_fails) := goodIn_app (goodIn_of _ (by decide +kernel)) ggX10_read_X10_fails
set_option maxRecDepth 20000 in
theorem ggX10_read_X10_next : GoodIn wsX10_read wsX10_next := goodIn_r _ [25, 1, 5, 21, 49, 50, 51, 52, 53, 54, 55, 56, 57, 58, 59, 60, 61, 62, 63, 64, 65, 66, 67, 68, 69, 70, 71, 72, 73, 74, 75, 76] (by decide +kernel) (by decide +kernel)
set_option maxRecDepth 20000 in
theorem gX10_read_X10_next : GoodIn wsX10_read (wsV RX10 125 RX10 yX10_next wsX10_next) := goodIn_app (goodIn_of _ (by decide +kernel)) ggX10_read_X10_next
set_option maxRecDepth 20000 in
theorem ggX10_read_X10_table : GoodIn wsX10_read wsX10_table := goodIn_r _ [36, 37, 38, 6, 7, 8, 26, 27, 13, 28, 39, 40, 41, 42, 43, 44, 49, 50, 51, 52, 53, 54, 55, 56, 57, 58, 59, 60, 61, 62, 63, 64, 65, 66, 67, 68, 69, 70, 71, 72, 73, 74, 75, 76] (by decide +kernel) (by decide +kernel)
set_option maxRecDepth 20000 in
theorem gX10_read_X10_table : GoodIn wsX10_read (wsV RX10 150 RX10 yX10_table wsX10_table) := goodIn_app (goodIn_of _ (by decide +kernel)) ggX10_read_X10_table
set_option maxRecDepth 20000 in
theorem ggX10_read_X10_place : GoodIn wsX10_read wsX10_place := goodIn_r _ [48, 7, 49, 50, 51, 52, 53, 54, 55, 56, 57, 58, 59, 60, 61, 62, 63, 64, 65, 66, 67, 68, 69, 70, 71, 72, 73, 74, 75, 76] (by decide +kernel) (by decide +kernel)
set_option maxRecDepth 20000 in
theorem gX10_read_X10_place : GoodIn wsX10_read (wsV RX10 97 RX10 yX10_place wsX10_place) := goodIn_app (goodIn_of _ (by decide +kernel)) ggX10_read_X10_place
theorem bdX10_read_0 : (decode cX10_read 0 = .ok (.aload_n 0, 1)) ∧ (decode cX10_read 1 = .ok (.iconst 0, 1)) ∧ (decode cX10_read 2 = .ok (.putfield 119, 3)) ∧ (decode cX10_read 5 = .ok (.aload_n 0, 1)) ∧ (decode cX10_read 6 = .ok (.iconst (-1), 1)) ∧ (decode cX10_read 7 = .ok (.putfield 122, 3)) ∧ (decode cX10_read 10 = .ok (.aload_n 0, 1)) ∧ (decode cX10_read 11 = .ok (.iconst 0, 1)) ∧ (decode cX10_read 12 = .ok (.putfield 137, 3)) ∧ (decode cX10_read 15 = .ok (.iconst 1, 1)) ∧ (decode cX10_read 16 = .ok (.istore_n 1, 1)) ∧ (decode cX10_read 17 = .ok (.iload_n 1, 1)) ∧ (decode cX10_read 18 = .ok (.ifCond .eq 126, 3)) ∧ (decode cX10_read 21 = .ok (.aload_n 0, 1)) ∧ (decode cX10_read 22 = .ok (.aload_n 0, 1)) ∧ (decode cX10_read 23 = .ok (.getfield 137, 3)) := by decide +kernel
theorem dX10_read_0 : decode cX10_read 0 = .ok (.aload_n 0, 1) := bdX10_read_0.1
theorem dX10_read_1 : decode cX10_read 1 = .ok (.iconst 0, 1) := bdX10_read_0.2.1
theorem dX10_read_2 : decode cX10_read 2 = .ok (.putfield 119, 3) := bdX10_read_0.2.2.1
theorem dX10_read_5 : decode cX10_read 5 = .ok (.aload_n 0, 1) := bdX10_read_0.2.2.2.1
theorem dX10_read_6 : decode cX10_read 6 = .ok (.iconst (-1), 1) := bdX10_read_0.2.2.2.2.1
theorem dX10_read_7 : decode cX10_read 7 = .ok (.putfield 122, 3) := bdX10_read_0.2.2.2.2.2.1
theorem dX10_read_10 : decode cX10_read 10 = .ok (.aload_n 0, 1) := bdX10_read_0.2.2.2.2.2.2.1
theorem dX10_read_11 : decode cX10_read 11 = .ok (.iconst 0, 1) := bdX10_read_0.2.2.2.2.2.2.2.1
theorem dX10_read_12 : decode cX10_read 12 = .ok (.putfield 137, 3) := bdX10_read_0.2.2.2.2.2.2.2.2.1
theorem dX10_read_15 : decode cX10_read 15 = .ok (.iconst 1, 1) := bdX10_read_0.2.2.2.2.2.2.2.2.2.1
theorem dX10_read_16 : decode cX10_read 16 = .ok (.istore_n 1, 1) := bdX10_read_0.2.2.2.2.2.2.2.2.2.2.1
theorem dX10_read_17 : decode cX10_read 17 = .ok (.iload_n 1, 1) := bdX10_read_0.2.2.2.2.2.2.2.2.2.2.2.1
theorem dX10_read_18 : decode cX10_read 18 = .ok (.ifCond .eq 126, 3) := bdX10_read_0.2.2.2.2.2.2.2.2.2.2.2.2.1
theorem dX10_read_21 : decode cX10_read 21 = .ok (.aload_n 0, 1) := bdX10_read_0.2.2.2.2.2.2.2.2.2.2.2.2.2.1
theorem dX10_read_22 : decode cX10_read 22 = .ok (.aload_n 0, 1) := bdX10_read_0.2.2.2.2.2.2.2.2.2.2.2.2.2.2.1
theorem dX10_read_23 : decode cX10_read 23 = .ok (.getfield 137, 3) := bdX10_read_0.2.2.2.2.2.2.2.2.2.2.2.2.2.2.2
theorem bdX10_read_26 : (decode cX10_read 26 = .ok (.ifCond .ne 7, 3)) ∧ (decode cX10_read 29 = .ok (.iconst 4, 1)) ∧ (decode cX10_read 30 = .ok (.goto 7, 3)) ∧ (decode cX10_read 33 = .ok (.aload_n 0, 1)) ∧ (decode cX10_read 34 = .ok (.getfield 143, 3)) ∧ (decode cX10_read 37 = .ok (.invokevirtual 146, 3)) ∧ (decode cX10_read 40 = .ok (.istore_n 2, 1)) ∧ (decode cX10_read 41 = .ok (.aload_n 0, 1)) ∧ (decode cX10_read 42 = .ok (.aload_n 0, 1)) ∧ (decode cX10_read 43 = .ok (.getfield 137, 3)) ∧ (decode cX10_read 46 = .ok (.ifCond .ne 7, 3)) ∧ (decode cX10_read 49 = .ok (.iload_n 2, 1)) ∧ (decode cX10_read 50 = .ok (.goto 7, 3)) ∧ (decode cX10_read 53 = .ok (.aload_n 0, 1)) ∧ (decode cX10_read 54 = .ok (.getfield 143, 3)) ∧ (decode cX10_read 57 = .ok (.putfield 143, 3)) := by decide +kernel
theorem dX10_read_26 : decode cX10_read 26 = .ok (.ifCond .ne 7, 3) := bdX10_read_26.1
theorem dX10_read_29 : decode cX10_read 29 = .ok (.iconst 4, 1) := bdX10_read_26.2.1
theorem dX10_read_30 : decode cX10_read 30 = .ok (.goto 7, 3) := bdX10_read_26.2.2.1
theorem dX10_read_33 : decode cX10_read 33 = .ok (.aload_n 0, 1) := bdX10_read_26.2.2.2.1
theorem dX10_read_34 : decode cX10_read 34 = .ok (.getfield 143, 3) := bdX10_read_26.2.2.2.2.1
theorem dX10_read_37 : decode cX10_read 37 = .ok (.invokevirtual 146, 3) := bdX10_read_26.2.2.2.2.2.1
theorem dX10_read_40 : decode cX10_read 40 = .ok (.istore_n 2, 1) := bdX10_read_26.2.2.2.2.2.2.1
theorem dX10_read_41 : decode cX10_read 41 = .ok (.aload_n 0, 1) := bdX10_read_26.2.2.2.2.2.2.2.1
theorem dX10_read_42 : decode cX10_read 42 = .ok (.aload_n 0, 1) := bdX10_read_26.2.2.2.2.2.2.2.2.1
theorem dX10_read_43 : decode cX10_read 43 = .ok (.getfield 137, 3) := bdX10_read_26.2.2.2.2.2.2.2.2.2.1
theorem dX10_read_46 : decode cX10_read 46 = .ok (.ifCond .ne 7, 3) := bdX10_read_26.2.2.2.2.2.2.2.2.2.2.1
theorem dX10_read_49 : decode cX10_read 49 = .ok (.iload_n 2, 1) := bdX10_read_26.2.2.2.2.2.2.2.2.2.2.2.1
theorem dX10_read_50 : decode cX10_read 50 = .ok (.goto 7, 3) := bdX10_read_26.2.2.2.2.2.2.2.2.2.2.2.2.1
theorem dX10_read_53 : decode cX10_read 53 = .ok (.aload_n 0, 1) := bdX10_read_26.2.2.2.2.2.2.2.2.2.2.2.2.2.1
theorem dX10_read_54 : decode cX10_read 54 = .ok (.getfield 143, 3) := bdX10_read_26.2.2.2.2.2.2.2.2.2.2.2.2.2.2.1
theorem dX10_read_57 : decode cX10_read 57 = .ok (.putfield 143, 3) := bdX10_read_26.2.2.2.2.2.2.2.2.2.2.2.2.2.2.2
theorem bdX10_read_60 : (decode cX10_read 60 = .ok (.aload_n 0, 1)) ∧ (decode cX10_read 61 = .ok (.getfield 122, 3)) ∧ (decode cX10_read 64 = .ok (.ifCond .ge 19, 3)) ∧ (decode cX10_read 67 = .ok (.iload_n 2, 1)) ∧ (decode cX10_read 68 = .ok (.aload_n 0, 1)) ∧ (decode cX10_read 69 = .ok (.getfield 143, 3)) ∧ (decode cX10_read 72 = .ok (.if_icmp .ge 11, 3)) ∧ (decode cX10_read 75 = .ok (.aload_n 0, 1)) ∧ (decode cX10_read 76 = .ok (.aload_n 0, 1)) ∧ (decode cX10_read 77 = .ok (.getfield 119, 3)) ∧ (decode cX10_read 80 = .ok (.invokevirtual 133, 3)) ∧ (decode cX10_read 83 = .ok (.aload_n 0, 1)) ∧ (decode cX10_read 84 = .ok (.dup, 1)) ∧ (decode cX10_read 85 = .ok (.getfield 137, 3)) ∧ (decode cX10_read 88 = .ok (.iconst 1, 1)) ∧ (decode cX10_read 89 = .ok (.iadd, 1)) := by decide +kernel
theorem dX10_read_60 : decode cX10_read 60 = .ok (.aload_n 0, 1) := bdX10_read_60.1
theorem dX10_read_61 : decode cX10_read 61 = .ok (.getfield 122, 3) := bdX10_read_60.2.1
theorem dX10_read_64 : decode cX10_read 64 = .ok (.ifCond .ge 19, 3) := bdX10_read_60.2.2.1
theorem dX10_read_67 : decode cX10_read 67 = .ok (.iload_n 2, 1) := bdX10_read_60.2.2.2.1
theorem dX10_read_68 : decode cX10_read 68 = .ok (.aload_n 0, 1) := bdX10_read_60.2.2.2.2.1
theorem dX10_read_69 : decode cX10_read 69 = .ok (.getfield 143, 3) := bdX10_read_60.2.2.2.2.2.1
theorem dX10_read_72 : decode cX10_read 72 = .ok (.if_icmp .ge 11, 3) := bdX10_read_60.2.2.2.2.2.2.1
theorem dX10_read_75 : decode cX10_read 75 = .ok (.aload_n 0, 1) := bdX10_read_60.2.2.2.2.2.2.2.1
theorem dX10_read_76 : decode cX10_read 76 = .ok (.aload_n 0, 1) := bdX10_read_60.2.2.2.2.2.2.2.2.1
theorem dX10_read_77 : decode cX10_read 77 = .ok (.getfield 119, 3) := bdX10_read_60.2.2.2.2.2.2.2.2.2.1
theorem dX10_read_80 : decode cX10_read 80 = .ok (.invokevirtual 133, 3) := bdX10_read_60.2.2.2.2.2.2.2.2.2.2.1
theorem dX10_read_83 : decode cX10_read 83 = .ok (.aload_n 0, 1) := bdX10_read_60.2.2.2.2.2.2.2.2.2.2.2.1
theorem dX10_read_84 : decode cX10_read 84 = .ok (.dup, 1) := bdX10_read_60.2.2.2.2.2.2.2.2.2.2.2.2.1
theorem dX10_read_85 : decode cX10_read 85 = .ok (.getfield 137, 3) := bdX10_read_60.2.2.2.2.2.2.2.2.2.2.2.2.2.1
theorem dX10_read_88 : decode cX10_read 88 = .ok (.iconst 1, 1) := bdX10_read_60.2.2.2.2.2.2.2.2.2.2.2.2.2.2.1
theorem dX10_read_89 : decode cX10_read 89 = .ok (.iadd, 1) := bdX10_read_60.2.2.2.2.2.2.2.2.2.2.2.2.2.2.2
theorem bdX10_read_90 : (decode cX10_read 90 = .ok (.putfield 137, 3)) ∧ (decode cX10_read 93 = .ok (.aload_n 0, 1)) ∧ (decode cX10_read 94 = .ok (.getfield 122, 3)) ∧ (decode cX10_read 97 = .ok (.ifCond .ge 24, 3)) ∧ (decode cX10_read 100 = .ok (.aload_n 0, 1)) ∧ (decode cX10_read 101 = .ok (.invokevirtual 125, 3)) ∧ (decode cX10_read 104 = .ok (.bipush 59, 2)) ∧ (decode cX10_read 106 = .ok (.if_icmp .ne 15, 3)) ∧ (decode cX10_read 109 = .ok (.aload_n 0, 1)) ∧ (decode cX10_read 110 = .ok (.getfield 137, 3)) ∧ (decode cX10_read 113 = .ok (.iconst 5, 1)) ∧ (decode cX10_read 114 = .ok (.if_icmp .ge 7, 3)) ∧ (decode cX10_read 117 = .ok (.iconst 1, 1)) ∧ (decode cX10_read 118 = .ok (.goto 4, 3)) ∧ (decode cX10_read 121 = .ok (.iconst 0, 1)) ∧ (decode cX10_read 122 = .ok (.istore_n 1, 1)) := by decide +kernel
theorem dX10_read_90 : decode cX10_read 90 = .ok (.putfield 137, 3) := bdX10_read_90.1
theorem dX10_read_93 : decode cX10_read 93 = .ok (.aload_n 0, 1) := bdX10_read_90.2.1
theorem dX10_read_94 : decode cX10_read 94 = .ok (.getfield 122, 3) := bdX10_read_90.2.2.1
theorem dX10_read_97 : decode cX10_read 97 = .ok (.ifCond .ge 24, 3) := bdX10_read_90.2.2.2.1
theorem dX10_read_100 : decode cX10_read 100 = .ok (.aload_n 0, 1) := bdX10_read_90.2.2.2.2.1
theorem dX10_read_101 : decode cX10_read 101 = .ok (.invokevirtual 125, 3) := bdX10_read_90.2.2.2.2.2.1
theorem dX10_read_104 : decode cX10_read 104 = .ok (.bipush 59, 2) := bdX10_read_90.2.2.2.2.2.2.1
theorem dX10_read_106 : decode cX10_read 106 = .ok (.if_icmp .ne 15, 3) := bdX10_read_90.2.2.2.2.2.2.2.1
theorem dX10_read_109 : decode cX10_read 109 = .ok (.aload_n 0, 1) := bdX10_read_90.2.2.2.2.2.2.2.2.1
theorem dX10_read_110 : decode cX10_read 110 = .ok (.getfield 137, 3) := bdX10_read_90.2.2.2.2.2.2.2.2.2.1
theorem dX10_read_113 : decode cX10_read 113 = .ok (.iconst 5, 1) := bdX10_read_90.2.2.2.2.2.2.2.2.2.2.1
theorem dX10_read_114 : decode cX10_read 114 = .ok (.if_icmp .ge 7, 3) := bdX10_read_90.2.2.2.2.2.2.2.2.2.2.2.1
theorem dX10_read_117 : decode cX10_read 117 = .ok (.iconst 1, 1) := bdX10_read_90.2.2.2.2.2.2.2.2.2.2.2.2.1
theorem dX10_read_118 : decode cX10_read 118 = .ok (.goto 4, 3) := bdX10_read_90.2.2.2.2.2.2.2.2.2.2.2.2.2.1
theorem dX10_read_121 : decode cX10_read 121 = .ok (.iconst 0, 1) := bdX10_read_90.2.2.2.2.2.2.2.2.2.2.2.2.2.2.1
theorem dX10_read_122 : decode cX10_read 122 = .ok (.istore_n 1, 1) := bdX10_read_90.2.2.2.2.2.2.2.2.2.2.2.2.2.2.2
theorem bdX10_read_123 : (decode cX10_read 123 = .ok (.aload_n 0, 1)) ∧ (decode cX10_read 124 = .ok (.dup, 1)) ∧ (decode cX10_read 125 = .ok (.getfield 119, 3)) ∧ (decode cX10_read 128 = .ok (.iload_n 1, 1)) ∧ (decode cX10_read 129 = .ok (.ifCond .eq 7, 3)) ∧ (decode cX10_read 132 = .ok (.iconst 1, 1)) ∧ (decode cX10_read 133 = .ok (.goto 4, 3)) ∧ (decode cX10_read 136 = .ok (.iconst 0, 1)) ∧ (decode cX10_read 137 = .ok (.iadd, 1)) ∧ (decode cX10_read 138 = .ok (.putfield 119, 3)) ∧ (decode cX10_read 141 = .ok (.goto (-124), 3)) ∧ (decode cX10_read 144 = .ok (.aload_n 0, 1)) ∧ (decode cX10_read 145 = .ok (.getfield 122, 3)) ∧ (decode cX10_read 148 = .ok (.ifCond .ge 18, 3)) ∧ (decode cX10_read 151 = .ok (.aload_n 0, 1)) ∧ (decode cX10_read 152 = .ok (.invokevirtual 125, 3)) := by decide +kernel
theorem dX10_read_123 : decode cX10_read 123 = .ok (.aload_n 0, 1) := bdX10_read_123.1
theorem dX10_read_124 : decode cX10_read 124 = .ok (.dup, 1) := bdX10_read_123.2.1
theorem dX10_read_125 : decode cX10_read 125 = .ok (.getfield 119, 3) := bdX10_read_123.2.2.1
theorem dX10_read_128 : decode cX10_read 128 = .ok (.iload_n 1, 1) := bdX10_read_123.2.2.2.1
theorem dX10_read_129 : decode cX10_read 129 = .ok (.ifCond .eq 7, 3) := bdX10_read_123.2.2.2.2.1
theorem dX10_read_132 : decode cX10_read 132 = .ok (.iconst 1, 1) := bdX10_read_123.2.2.2.2.2.1
theorem dX10_read_133 : decode cX10_read 133 = .ok (.goto 4, 3) := bdX10_read_123.2.2.2.2.2.2.1
theorem dX10_read_136 : decode cX10_read 136 = .ok (.iconst 0, 1) := bdX10_read_123.2.2.2.2.2.2.2.1
theorem dX10_read_137 : decode cX10_read 137 = .ok (.iadd, 1) := bdX10_read_123.2.2.2.2.2.2.2.2.1
theorem dX10_read_138 : decode cX10_read 138 = .ok (.putfield 119, 3) := bdX10_read_123.2.2.2.2.2.2.2.2.2.1
theorem dX10_read_141 : decode cX10_read 141 = .ok (.goto (-124), 3) := bdX10_read_123.2.2.2.2.2.2.2.2.2.2.1
theorem dX10_read_144 : decode cX10_read 144 = .ok (.aload_n 0, 1) := bdX10_read_123.2.2.2.2.2.2.2.2.2.2.2.1
theorem dX10_read_145 : decode cX10_read 145 = .ok (.getfield 122, 3) := bdX10_read_123.2.2.2.2.2.2.2.2.2.2.2.2.1
theorem dX10_read_148 : decode cX10_read 148 = .ok (.ifCond .ge 18, 3) := bdX10_read_123.2.2.2.2.2.2.2.2.2.2.2.2.2.1
theorem dX10_read_151 : decode cX10_read 151 = .ok (.aload_n 0, 1) := bdX10_read_123.2.2.2.2.2.2.2.2.2.2.2.2.2.2.1
theorem dX10_read_152 : decode cX10_read 152 = .ok (.invokevirtual 125, 3) := bdX10_read_123.2.2.2.2.2.2.2.2.2.2.2.2.2.2.2
theorem bdX10_read_155 : (decode cX10_read 155 = .ok (.ifCond .eq 11, 3)) ∧ (decode cX10_read 158 = .ok (.aload_n 0, 1)) ∧ (decode cX10_read 159 = .ok (.aload_n 0, 1)) ∧ (decode cX10_read 160 = .ok (.getfield 119, 3)) ∧ (decode cX10_read 163 = .ok (.invokevirtual 133, 3)) ∧ (decode cX10_read 166 = .ok (.aload_n 0, 1)) ∧ (decode cX10_read 167 = .ok (.iconst 0, 1)) ∧ (decode cX10_read 168 = .ok (.putfield 116, 3)) ∧ (decode cX10_read 171 = .ok (.aload_n 0, 1)) ∧ (decode cX10_read 172 = .ok (.getfield 122, 3)) ∧ (decode cX10_read 175 = .ok (.ifCond .lt 11, 3)) ∧ (decode cX10_read 178 = .ok (.bipush (-20), 2)) ∧ (decode cX10_read 180 = .ok (.aload_n 0, 1)) ∧ (decode cX10_read 181 = .ok (.getfield 122, 3)) ∧ (decode cX10_read 184 = .ok (.isub, 1)) ∧ (decode cX10_read 185 = .ok (.ireturn, 1)) := by decide +kernel
theorem dX10_read_155 : decode cX10_read 155 = .ok (.ifCond .eq 11, 3) := bdX10_read_155.1
theorem dX10_read_158 : decode cX10_read 158 = .ok (.aload_n 0, 1) := bdX10_read_155.2.1
theorem dX10_read_159 : decode cX10_read 159 = .ok (.aload_n 0, 1) := bdX10_read_155.2.2.1
theorem dX10_read_160 : decode cX10_read 160 = .ok (.getfield 119, 3) := bdX10_read_155.2.2.2.1
theorem dX10_read_163 : decode cX10_read 163 = .ok (.invokevirtual 133, 3) := bdX10_read_155.2.2.2.2.1
theorem dX10_read_166 : decode cX10_read 166 = .ok (.aload_n 0, 1) := bdX10_read_155.2.2.2.2.2.1
theorem dX10_read_167 : decode cX10_read 167 = .ok (.iconst 0, 1) := bdX10_read_155.2.2.2.2.2.2.1
theorem dX10_read_168 : decode cX10_read 168 = .ok (.putfield 116, 3) := bdX10_read_155.2.2.2.2.2.2.2.1
theorem dX10_read_171 : decode cX10_read 171 = .ok (.aload_n 0, 1) := bdX10_read_155.2.2.2.2.2.2.2.2.1
theorem dX10_read_172 : decode cX10_read 172 = .ok (.getfield 122, 3) := bdX10_read_155.2.2.2.2.2.2.2.2.2.1
theorem dX10_read_175 : decode cX10_read 175 = .ok (.ifCond .lt 11, 3) := bdX10_read_155.2.2.2.2.2.2.2.2.2.2.1
theorem dX10_read_178 : decode cX10_read 178 = .ok (.bipush (-20), 2) := bdX10_read_155.2.2.2.2.2.2.2.2.2.2.2.1
theorem dX10_read_180 : decode cX10_read 180 = .ok (.aload_n 0, 1) := bdX10_read_155.2.2.2.2.2.2.2.2.2.2.2.2.1
theorem dX10_read_181 : decode cX10_read 181 = .ok (.getfield 122, 3) := bdX10_read_155.2.2.2.2.2.2.2.2.2.2.2.2.2.1
theorem dX10_read_184 : decode cX10_read 184 = .ok (.isub, 1) := bdX10_read_155.2.2.2.2.2.2.2.2.2.2.2.2.2.2.1
theorem dX10_read_185 : decode cX10_read 185 = .ok (.ireturn, 1) := bdX10_read_155.2.2.2.2.2.2.2.2.2.2.2.2.2.2.2
theorem bdX10_read_186 : (decode cX10_read 186 = .ok (.aload_n 0, 1)) ∧ (decode cX10_read 187 = .ok (.aload_n 0, 1)) ∧ (decode cX10_read 188 = .ok (.getfield 137, 3)) ∧ (decode cX10_read 191 = .ok (.aload_n 0, 1)) ∧ (decode cX10_read 192 = .ok (.getfield 143, 3)) ∧ (decode cX10_read 195 = .ok (.invokevirtual 150, 3)) ∧ (decode cX10_read 198 = .ok (.istore_n 2, 1)) ∧ (decode cX10_read 199 = .ok (.iconst 0, 1)) ∧ (decode cX10_read 200 = .ok (.istore_n 3, 1)) ∧ (decode cX10_read 201 = .ok (.iload_n 3, 1)) ∧ (decode cX10_read 202 = .ok (.aload_n 0, 1)) ∧ (decode cX10_read 203 = .ok (.getfield 7, 3)) ∧ (decode cX10_read 206 = .ok (.if_icmp .ge 50, 3)) ∧ (decode cX10_read 209 = .ok (.iconst 0, 1)) ∧ (decode cX10_read 210 = .ok (.istore 4, 2)) ∧ (decode cX10_read 212 = .ok (.iload 4, 2)) := by decide +kernel
theorem dX10_read_186 : decode cX10_read 186 = .ok (.aload_n 0, 1) := bdX10_read_186.1
theorem dX10_read_187 : decode cX10_read 187 = .ok (.aload_n 0, 1) := bdX10_read_186.2.1
theorem dX10_read_188 : decode cX10_read 188 = .ok (.getfield 137, 3) := bdX10_read_186.2.2.1
theorem dX10_read_191 : decode cX10_read 191 = .ok (.aload_n 0, 1) := bdX10_read_186.2.2.2.1
theorem dX10_read_192 : decode cX10_read 192 = .ok (.getfield 143, 3) := bdX10_read_186.2.2.2.2.1
theorem dX10_read_195 : decode cX10_read 195 = .ok (.invokevirtual 150, 3) := bdX10_read_186.2.2.2.2.2.1
theorem dX10_read_198 : decode cX10_read 198 = .ok (.istore_n 2, 1) := bdX10_read_186.2.2.2.2.2.2.1
theorem dX10_read_199 : decode cX10_read 199 = .ok (.iconst 0, 1) := bdX10_read_186.2.2.2.2.2.2.2.1
theorem dX10_read_200 : decode cX10_read 200 = .ok (.istore_n 3, 1) := bdX10_read_186.2.2.2.2.2.2.2.2.1
theorem dX10_read_201 : decode cX10_read 201 = .ok (.iload_n 3, 1) := bdX10_read_186.2.2.2.2.2.2.2.2.2.1
theorem dX10_read_202 : decode cX10_read 202 = .ok (.aload_n 0, 1) := bdX10_read_186.2.2.2.2.2.2.2.2.2.2.1
theorem dX10_read_203 : decode cX10_read 203 = .ok (.getfield 7, 3) := bdX10_read_186.2.2.2.2.2.2.2.2.2.2.2.1
theorem dX10_read_206 : decode cX10_read 206 = .ok (.if_icmp .ge 50, 3) := bdX10_read_186.2.2.2.2.2.2.2.2.2.2.2.2.1
theorem dX10_read_209 : decode cX10_read 209 = .ok (.iconst 0, 1) := bdX10_read_186.2.2.2.2.2.2.2.2.2.2.2.2.2.1
theorem dX10_read_210 : decode cX10_read 210 = .ok (.istore 4, 2) := bdX10_read_186.2.2.2.2.2.2.2.2.2.2.2.2.2.2.1
theorem dX10_read_212 : decode cX10_read 212 = .ok (.iload 4, 2) := bdX10_read_186.2.2.2.2.2.2.2.2.2.2.2.2.2.2.2
theorem bdX10_read_214 : (decode cX10_read 214 = .ok (.aload_n 0, 1)) ∧ (decode cX10_read 215 = .ok (.getfield 13, 3)) ∧ (decode cX10_read 218 = .ok (.if_icmp .ge 32, 3)) ∧ (decode cX10_read 221 = .ok (.aload_n 0, 1)) ∧ (decode cX10_read 222 = .ok (.getfield 19, 3)) ∧ (decode cX10_read 225 = .ok (.aload_n 0, 1)) ∧ (decode cX10_read 226 = .ok (.iload_n 3, 1)) ∧ (decode cX10_read 227 = .ok (.iload 4, 2)) ∧ (decode cX10_read 229 = .ok (.invokevirtual 97, 3)) ∧ (decode cX10_read 232 = .ok (.aload_n 0, 1)) ∧ (decode cX10_read 233 = .ok (.getfield 35, 3)) ∧ (decode cX10_read 236 = .ok (.iconst 4, 1)) ∧ (decode cX10_read 237 = .ok (.iload_n 3, 1)) ∧ (decode cX10_read 238 = .ok (.imul, 1)) ∧ (decode cX10_read 239 = .ok (.iload 4, 2)) ∧ (decode cX10_read 241 = .ok (.iadd, 1)) := by decide +kernel
theorem dX10_read_214 : decode cX10_read 214 = .ok (.aload_n 0, 1) := bdX10_read_214.1
theorem dX10_read_215 : decode cX10_read 215 = .ok (.getfield 13, 3) := bdX10_read_214.2.1
theorem dX10_read_218 : decode cX10_read 218 = .ok (.if_icmp .ge 32, 3) := bdX10_read_214.2.2.1
theorem dX10_read_221 : decode cX10_read 221 = .ok (.aload_n 0, 1) := bdX10_read_214.2.2.2.1
theorem dX10_read_222 : decode cX10_read 222 = .ok (.getfield 19, 3) := bdX10_read_214.2.2.2.2.1
theorem dX10_read_225 : decode cX10_read 225 = .ok (.aload_n 0, 1) := bdX10_read_214.2.2.2.2.2.1
theorem dX10_read_226 : decode cX10_read 226 = .ok (.iload_n 3, 1) := bdX10_read_214.2.2.2.2.2.2.1
theorem dX10_read_227 : decode cX10_read 227 = .ok (.iload 4, 2) := bdX10_read_214.2.2.2.2.2.2.2.1
theorem dX10_read_229 : decode cX10_read 229 = .ok (.invokevirtual 97, 3) := bdX10_read_214.2.2.2.2.2.2.2.2.1
theorem dX10_read_232 : decode cX10_read 232 = .ok (.aload_n 0, 1) := bdX10_read_214.2.2.2.2.2.2.2.2.2.1
theorem dX10_read_233 : decode cX10_read 233 = .ok (.getfield 35, 3) := bdX10_read_214.2.2.2.2.2.2.2.2.2.2.1
theorem dX10_read_236 : decode cX10_read 236 = .ok (.iconst 4, 1) := bdX10_read_214.2.2.2.2.2.2.2.2.2.2.2.1
theorem dX10_read_237 : decode cX10_read 237 = .ok (.iload_n 3, 1) := bdX10_read_214.2.2.2.2.2.2.2.2.2.2.2.2.1
theorem dX10_read_238 : decode cX10_read 238 = .ok (.imul, 1) := bdX10_read_214.2.2.2.2.2.2.2.2.2.2.2.2.2.1
theorem dX10_read_239 : decode cX10_read 239 = .ok (.iload 4, 2) := bdX10_read_214.2.2.2.2.2.2.2.2.2.2.2.2.2.2.1
theorem dX10_read_241 : decode cX10_read 241 = .ok (.iadd, 1) := bdX10_read_214.2.2.2.2.2.2.2.2.2.2.2.2.2.2.2
theorem bdX10_read_242 : (decode cX10_read 242 = .ok (.iaload, 1)) ∧ (decode cX10_read 243 = .ok (.iastore, 1)) ∧ (decode cX10_read 244 = .ok (.iinc 4 1, 3)) ∧ (decode cX10_read 247 = .ok (.goto (-35), 3)) ∧ (decode cX10_read 250 = .ok (.iinc 3 1, 3)) ∧ (decode cX10_read 253 = .ok (.goto (-52), 3)) ∧ (decode cX10_read 256 = .ok (.aload_n 0, 1)) ∧ (decode cX10_read 257 = .ok (.getfield 7, 3)) ∧ (decode cX10_read 260 = .ok (.ireturn, 1)) := by decide +kernel
theorem dX10_read_242 : decode cX10_read 242 = .ok (.iaload, 1) := bdX10_read_242.1
theorem dX10_read_243 : decode cX10_read 243 = .ok (.iastore, 1) := bdX10_read_242.2.1
theorem dX10_read_244 : decode cX10_read 244 = .ok (.iinc 4 1, 3) := bdX10_read_242.2.2.1
theorem dX10_read_247 : decode cX10_read 247 = .ok (.goto (-35), 3) := bdX10_read_242.2.2.2.1
theorem dX10_read_250 : decode cX10_read 250 = .ok (.iinc 3 1, 3) := bdX10_read_242.2.2.2.2.1
theorem dX10_read_253 : decode cX10_read 253 = .ok (.goto (-52), 3) := bdX10_read_242.2.2.2.2.2.1
theorem dX10_read_256 : decode cX10_read 256 = .ok (.aload_n 0, 1) := bdX10_read_242.2.2.2.2.2.2.1
theorem dX10_read_257 : decode cX10_read 257 = .ok (.getfield 7, 3) := bdX10_read_242.2.2.2.2.2.2.2.1
theorem dX10_read_260 : decode cX10_read 260 = .ok (.ireturn, 1) := bdX10_read_242.2.2.2.2.2.2.2.2
set_option maxHeartbeats 4000000 in
set_option maxRecDepth 100000 in
theorem k_X10_read (l : Launch) (dC : Nat → ClassId) (dI : Nat → Nat → Nat) (h : Nat → Nat) (cs : Nat → ClassId) (sz : Nat) (I : Nat → Int32) (L : Nat → Int64) (A : Nat → Nat → Int32) (Q : Nat → Nat → Int64) (T : Nat) (hT : I 10 = nI T) (hT9 : T ≤ 90) : Met l yX10_read wsX10_read ({ frames := 3, cells := 0, slots := 0, locals := 71 }) (va_Pc [.ref (h 0)] (xPre (dC, dI) (rW h cs I L A Q) (tysA cs) sz)) (va_Qi (fun (r : Int32) (u : RS) => ∃ i11 : Int32, ∃ i12 : Int32, ∃ i14 : Int32, ∃ i15 : Int32, ∃ i10 : Int32, ∃ i0 : Int32, ∃ i1 : Int32, ∃ i4 : Int32, ∃ i5 : Int32, ∃ a13 : Nat → Int32, ∃ a3 : Nat → Int32, (i10 = nI 0 ∧ ((∃ i j : Nat, 1 ≤ i ∧ i ≤ 5 ∧ 1 ≤ j ∧ j ≤ 4 ∧ i0 = nI i ∧ i1 = nI j ∧ i4 = nI 0 ∧ i5 = nI 0 ∧ ∀ q : Nat, q < 25 → b9 (a3 q)) ∨ (i0 = I 0 ∧ i1 = I 1 ∧ i4 = I 4 ∧ i5 = I 5 ∧ a3 = A 3))) ∧ u = ((va_up (va_up (va_up (va_up (va_up (va_up (va_up (va_up (va_up I 11 i11) 12 i12) 14 i14) 15 i15) 10 i10) 0 i0) 1 i1) 4 i4) 5 i5), L, (va_up (va_up A 13 a13) 3 a3), Q)) (xB (dC, dI) (tysA cs) (va_A (rW h cs I L A Q) sz) (fun u : RS => rW h cs u.1 u.2.1 u.2.2.1 u.2.2.2)) (va_A (rW h cs I L A Q) sz)) 0 0 (va_A (rW h cs I L A Q) sz) := by
  refine Met.ofW (cc := cX10_read) (maxL := 5) (ret := (some .int)) (by decide) rfl ?_
  intro p e s m args below meth c s₁ B hml hv
  obtain ⟨rfl, hsz, hP, hK, hD0, hN⟩ := hv
  have hx := B.exec
  have hb := B.bytes
  have hr := B.returns
  have hts := atoms_spec (ws := wsX10_read) B.pre
  have hown : s.vm.findClass RX10 = some m.cls := findClass_of_methodNamed B.named
  have hlocks := B.notSynchronized
  subst hsz
  have hD := hD0.self (sz := s.heap.size)
  generalize hAe : va_A (rW h cs I L A Q) s.heap.size = A0 at hD ⊢
  have hA : ∀ q : Nat, s.heap.size ≤ q → A0 q := fun q h => by rw [← hAe]; exact Or.inr h
  have hl := lv_entry ([.ref (h 0)]) (n := 5) (Nat.le_of_ble_eq_true rfl)
  rw [lg_entry_eq]
  generalize (lg_sl ([.ref (h 0)]) ++ List.replicate (5 - (lg_sl ([.ref (h 0)])).length) Slot.unset).toArray = ls at hl ⊢
  have hl : lv_has ls 5 [(0, .ref (h 0))] := hl
  generalize hH : s.heap = H at hP ⊢
  have hS : va_S A0 s.heap H [] := by rw [← hH]; exact va_S.rf
  have hinX10 : ∀ w ∈ wsX100, w ∈ wsX10_read := by decide +kernel
  refine lv_aload_n hx hb dX10_read_0 rfl (lv_at hl 0 rfl) ?_
  refine lv_iconst (v := nI 0) hx hb dX10_read_1 (by decide) ?_
  refine va_put (D := (dC, dI)) (ci := 10) (v := .int (nI 0)) (ty := .int) (C := RX10) (T := TX10) (N := 28) hx hb hts hinX10 tyX10 tyX10_ok nmX10 hown hK hP hD hS 0 rfl rfl 11 (by decide) (hts (.fieldLink RX10 119 "MixedWordsModel" "at" "I") (by decide +kernel)) (fun _ h9 => h9) rfl (by decide +kernel) rfl rfl (Nat.le_of_ble_eq_true rfl) dX10_read_2 (fun H locs hP hD hS => ?_)
  have hP : va_P (dC, dI) vwCl (rW h cs (va_up I 11 (nI 0)) L A Q) H := hP
  have hD : va_D A0 (rW h cs (va_up I 11 (nI 0)) L A Q) := hD
  refine lv_aload_n hx hb dX10_read_5 rfl (lv_at hl 0 rfl) ?_
  refine lv_iconst (v := (-1)) hx hb dX10_read_6 (by decide) ?_
  refine va_put (D := (dC, dI)) (ci := 10) (v := .int (-1)) (ty := .int) (C := RX10) (T := TX10) (N := 28) hx hb hts hinX10 tyX10 tyX10_ok nmX10 hown hK hP hD hS 0 rfl rfl 12 (by decide) (hts (.fieldLink RX10 122 "MixedWordsModel" "wrong" "I") (by decide +kernel)) (fun _ h9 => h9) rfl (by decide +kernel) rfl rfl (Nat.le_of_ble_eq_true rfl) dX10_read_7 (fun H locs hP hD hS => ?_)
  have hP : va_P (dC, dI) vwCl (rW h cs (va_up (va_up I 11 (nI 0)) 12 (-1)) L A Q) H := hP
  have hD : va_D A0 (rW h cs (va_up (va_up I 11 (nI 0)) 12 (-1)) L A Q) := hD
  refine lv_aload_n hx hb dX10_read_10 rfl (lv_at hl 0 rfl) ?_
  refine lv_iconst (v := nI 0) hx hb dX10_read_11 (by decide) ?_
  refine va_put (D := (dC, dI)) (ci := 10) (v := .int (nI 0)) (ty := .int) (C := RX10) (T := TX10) (N := 28) hx hb hts hinX10 tyX10 tyX10_ok nmX10 hown hK hP hD hS 0 rfl rfl 14 (by decide) (hts (.fieldLink RX10 137 "MixedWordsModel" "readRows" "I") (by decide +kernel)) (fun _ h9 => h9) rfl (by decide +kernel) rfl rfl (Nat.le_of_ble_eq_true rfl) dX10_read_12 (fun H locs hP hD hS => ?_)
  have hP : va_P (dC, dI) vwCl (rW h cs (va_up (va_up (va_up I 11 (nI 0)) 12 (-1)) 14 (nI 0)) L A Q) H := hP
  have hD : va_D A0 (rW h cs (va_up (va_up (va_up I 11 (nI 0)) 12 (-1)) 14 (nI 0)) L A Q) := hD
  refine lv_iconst (v := nI 1) hx hb dX10_read_15 (by decide) ?_
  refine lv_istore_n (lv' := [(1, .int (nI 1)), (0, .ref (h 0))]) hx hb dX10_read_16 rfl hl (by decide) rfl (fun ls hl => ?_)
  have cut_17 : ∀ (nf : Nat) (m1 : Nat) (rr : Nat) (cc : Nat) (c15 : Int32) (a1 : Nat) (w1 : Int32) (g : Nat → Int32), (5 - rr) < nf → (m1 ≤ 1) → (rr ≤ 5) → (m1 = 1 → rr ≤ 4 ∧ w1 < 0) → (a1 ≤ T) → (0 < rr → (c15 = nI cc ∧ 1 ≤ cc ∧ cc ≤ 4)) → (m1 = 0 → 0 < rr) → (w1 < 0 → ∀ i j : Nat, i < rr → j < cc → b9 (g (4 * i + j))) → ∀ (H : Heap) (locs : List Loc) (ls : Array Slot), va_P (dC, dI) vwCl (rW h cs (va_up (va_up (va_up (va_up I 11 (nI a1)) 12 w1) 14 (nI rr)) 15 c15) L (va_up A 13 g) Q) H → va_D A0 (rW h cs (va_up (va_up (va_up (va_up I 11 (nI a1)) 12 w1) 14 (nI rr)) 15 c15) L (va_up A 13 g) Q) → va_S A0 s.heap H locs → lv_has ls 5 [(0, .ref (h 0)), (1, .int (nI m1))] → W p l e (headSpec wsX10_read ({ frames := 3, cells := 0, slots := 0, locals := 71 })).room s m ([.ref (h 0)] : List Value).toArray below meth c H locs 0 0 (MQ below (va_Qi (fun (r : Int32) (u : RS) => ∃ i11 : Int32, ∃ i12 : Int32, ∃ i14 : Int32, ∃ i15 : Int32, ∃ i10 : Int32, ∃ i0 : Int32, ∃ i1 : Int32, ∃ i4 : Int32, ∃ i5 : Int32, ∃ a13 : Nat → Int32, ∃ a3 : Nat → Int32, (i10 = nI 0 ∧ ((∃ i j : Nat, 1 ≤ i ∧ i ≤ 5 ∧ 1 ≤ j ∧ j ≤ 4 ∧ i0 = nI i ∧ i1 = nI j ∧ i4 = nI 0 ∧ i5 = nI 0 ∧ ∀ q : Nat, q < 25 → b9 (a3 q)) ∨ (i0 = I 0 ∧ i1 = I 1 ∧ i4 = I 4 ∧ i5 = I 5 ∧ a3 = A 3))) ∧ u = ((va_up (va_up (va_up (va_up (va_up (va_up (va_up (va_up (va_up I 11 i11) 12 i12) 14 i14) 15 i15) 10 i10) 0 i0) 1 i1) 4 i4) 5 i5), L, (va_up (va_up A 13 a13) 3 a3), Q)) (xB (dC, dI) (tysA cs) A0 (fun u : RS => rW h cs u.1 u.2.1 u.2.2.1 u.2.2.2)) A0) ([.ref (h 0)] : List Value).toArray s 0 0 A0) (F0 m 17 ls []) := by
    intro nf
    induction nf with
    | zero => intro m1 rr cc c15 a1 w1 g hm; exact absurd hm (Nat.not_lt_zero _)
    | succ nf ih_17 =>
      intro m1 rr cc c15 a1 w1 g hm_17 hm17 hr17 hmr17 ha17 hc17 h017 hb17 H locs ls hP hD hS hl
      refine lv_iload_n hx hb dX10_read_17 rfl (lv_at hl 1 rfl) ?_
      refine xz_eq (tgt := 144) hx hb dX10_read_18 (by decide) (by omega) (fun c_18_0 => ?_) (fun c_18_0 => ?_)
      · skip
        refine lv_aload_n hx hb dX10_read_144 rfl (lv_at hl 0 rfl) ?_
        refine va_get (D := (dC, dI)) (ci := 10) (v := .int w1) (C := RX10) (T := TX10) (N := 28) hx hb hts hinX10 hown hK hP 0 rfl rfl 12 (by decide) (hts (.fieldLink RX10 122 "MixedWordsModel" "wrong" "I") (by decide +kernel)) (fun _ h9 => h9) rfl dX10_read_145 ?_
        refine lv_if_ge (tgt := 166) hx hb dX10_read_148 (by decide) (fun c_148_1 => ?_) (fun c_148_1 => ?_)
        · skip
          refine lv_aload_n hx hb dX10_read_166 rfl (lv_at hl 0 rfl) ?_
          refine lv_iconst (v := nI 0) hx hb dX10_read_167 (by decide) ?_
          refine va_put (D := (dC, dI)) (ci := 10) (v := .int (nI 0)) (ty := .int) (C := RX10) (T := TX10) (N := 28) hx hb hts hinX10 tyX10 tyX10_ok nmX10 hown hK hP hD hS 0 rfl rfl 10 (by decide) (hts (.fieldLink RX10 116 "MixedWordsModel" "taped" "I") (by decide +kernel)) (fun _ h9 => h9) rfl (by decide +kernel) rfl rfl (Nat.le_of_ble_eq_true rfl) dX10_read_168 (fun H locs hP hD hS => ?_)
          have hP : va_P (dC, dI) vwCl (rW h cs (va_up (va_up (va_up (va_up (va_up I 11 (nI a1)) 12 w1) 14 (nI rr)) 15 c15) 10 (nI 0)) L (va_up A 13 g) Q) H := hP
          have hD : va_D A0 (rW h cs (va_up (va_up (va_up (va_up (va_up I 11 (nI a1)) 12 w1) 14 (nI rr)) 15 c15) 10 (nI 0)) L (va_up A 13 g) Q) := hD
          refine lv_aload_n hx hb dX10_read_171 rfl (lv_at hl 0 rfl) ?_
          refine va_get (D := (dC, dI)) (ci := 10) (v := .int w1) (C := RX10) (T := TX10) (N := 28) hx hb hts hinX10 hown hK hP 0 rfl rfl 12 (by decide) (hts (.fieldLink RX10 122 "MixedWordsModel" "wrong" "I") (by decide +kernel)) (fun _ h9 => h9) rfl dX10_read_172 ?_
          refine lv_if_lt (tgt := 186) hx hb dX10_read_175 (by decide) (fun c_175_2 => ?_) (fun c_175_2 => ?_)
          · skip
            refine lv_aload_n hx hb dX10_read_186 rfl (lv_at hl 0 rfl) ?_
            refine lv_aload_n hx hb dX10_read_187 rfl (lv_at hl 0 rfl) ?_
            refine va_get (D := (dC, dI)) (ci := 10) (v := .int (nI rr)) (C := RX10) (T := TX10) (N := 28) hx hb hts hinX10 hown hK hP 0 rfl rfl 14 (by decide) (hts (.fieldLink RX10 137 "MixedWordsModel" "readRows" "I") (by decide +kernel)) (fun _ h9 => h9) rfl dX10_read_188 ?_
            refine lv_aload_n hx hb dX10_read_191 rfl (lv_at hl 0 rfl) ?_
            refine va_get (D := (dC, dI)) (ci := 10) (v := .int c15) (C := RX10) (T := TX10) (N := 28) hx hb hts hinX10 hown hK hP 0 rfl rfl 15 (by decide) (hts (.fieldLink RX10 143 "MixedWordsModel" "readColumns" "I") (by decide +kernel)) (fun _ h9 => h9) rfl dX10_read_192 ?_
            obtain ⟨hc1, hc2, hc3⟩ := hc17 (by omega)
            refine xt_i (y := nI cc) (hc1) ?_
            refine xj_i (wc := (rW h cs (va_up (va_up (va_up (va_up (va_up I 11 (nI a1)) 12 w1) 14 (nI rr)) 15 c15) 10 (nI 0)) L (va_up A 13 g) Q)) (wr := ([] : va_W)) hP hD hS hA [0, 1, 2, 3, 4, 5, 6, 7, 8, 9, 10, 11, 12, 13, 14, 15, 16] [] rfl rfl (by decide) (by decide) (va_runV (As := [.int (nI rr), .int (nI cc)]) (rest := []) ⟨hx, hb, hml, hown, hts⟩ (k_X10_table l dC dI h cs H.size (va_up (va_up (va_up (va_up (va_up I 11 (nI a1)) 12 w1) 14 (nI rr)) 15 c15) 10 (nI 0)) L (va_up A 13 g) Q (nI rr) (nI cc)) (cwV 2 hts gX10_read_X10_table rfl rfl rfl (by decide +kernel) ⟨Nat.le_of_ble_eq_true rfl, Nat.le_of_ble_eq_true rfl⟩) (xpV (wc := (rW h cs (va_up (va_up (va_up (va_up (va_up I 11 (nI a1)) 12 w1) 14 (nI rr)) 15 c15) 10 (nI 0)) L (va_up A 13 g) Q)) hP hD hK hN [0, 1, 2, 3, 4, 5, 6, 7, 8, 9, 10, 11, 12, 13, 14, 15, 16] rfl (by decide) 0 (ci := 10) rfl rfl _) rfl rfl hl.1 rfl (lv_room (Nat.le_of_ble_eq_true rfl)) dX10_read_195 ⟨Nat.zero_le _, Nat.zero_le _⟩) (fun r_5 u_4 H locs hw hP hD hS => ?_)
            obtain ⟨x0_6, x1_7, x4_8, x5_9, f_10, hf_11, rfl⟩ := hw
            have hP : va_P (dC, dI) vwCl (rW h cs (va_up (va_up (va_up (va_up (va_up (va_up (va_up (va_up (va_up I 11 (nI a1)) 12 w1) 14 (nI rr)) 15 c15) 10 (nI 0)) 0 x0_6) 1 x1_7) 4 x4_8) 5 x5_9) L (va_up (va_up A 13 g) 3 f_10) Q) H := hP
            have hD : va_D A0 (rW h cs (va_up (va_up (va_up (va_up (va_up (va_up (va_up (va_up (va_up I 11 (nI a1)) 12 w1) 14 (nI rr)) 15 c15) 10 (nI 0)) 0 x0_6) 1 x1_7) 4 x4_8) 5 x5_9) L (va_up (va_up A 13 g) 3 f_10) Q) := hD
            rcases hf_11 with ⟨rfl, i9, j9, k1, k2, k3, k4, e1, e2, rfl, rfl, rfl, rfl, hz9⟩ | ⟨-, hn9, -⟩
            · skip
              obtain rfl : rr = i9 := (nI_eq (by omega) (by omega)).mp e1
              obtain rfl : cc = j9 := (nI_eq (by omega) (by omega)).mp e2
              have hz0 := b9_0 hz9
              refine lv_istore_n (lv' := [(2, .int (nI 1)), (0, .ref (h 0)), (1, .int (nI m1))]) hx hb dX10_read_198 rfl hl (by decide) rfl (fun ls hl => ?_)
              refine lv_iconst (v := nI 0) hx hb dX10_read_199 (by decide) ?_
              refine lv_istore_n (lv' := [(3, .int (nI 0)), (2, .int (nI 1)), (0, .ref (h 0)), (1, .int (nI m1))]) hx hb dX10_read_200 rfl hl (by decide) rfl (fun ls hl => ?_)
              have cut_201 : ∀ (nf : Nat) (n : Nat) (t3 : Nat → Int32), (rr - n) < nf → (n ≤ rr) → (∀ q : Nat, q < 25 → b9 (t3 q)) → ∀ (H : Heap) (locs : List Loc) (ls : Array Slot), va_P (dC, dI) vwCl (rW h cs (va_up (va_up (va_up (va_up (va_up (va_up (va_up (va_up (va_up I 11 (nI a1)) 12 w1) 14 (nI rr)) 15 c15) 10 (nI 0)) 0 (nI rr)) 1 (nI cc)) 4 (nI 0)) 5 (nI 0)) L (va_up (va_up A 13 g) 3 t3) Q) H → va_D A0 (rW h cs (va_up (va_up (va_up (va_up (va_up (va_up (va_up (va_up (va_up I 11 (nI a1)) 12 w1) 14 (nI rr)) 15 c15) 10 (nI 0)) 0 (nI rr)) 1 (nI cc)) 4 (nI 0)) 5 (nI 0)) L (va_up (va_up A 13 g) 3 t3) Q) → va_S A0 s.heap H locs → lv_has ls 5 [(0, .ref (h 0)), (1, .int (nI m1)), (2, .int (nI 1)), (3, .int (nI n))] → W p l e (headSpec wsX10_read ({ frames := 3, cells := 0, slots := 0, locals := 71 })).room s m ([.ref (h 0)] : List Value).toArray below meth c H locs 0 0 (MQ below (va_Qi (fun (r : Int32) (u : RS) => ∃ i11 : Int32, ∃ i12 : Int32, ∃ i14 : Int32, ∃ i15 : Int32, ∃ i10 : Int32, ∃ i0 : Int32, ∃ i1 : Int32, ∃ i4 : Int32, ∃ i5 : Int32, ∃ a13 : Nat → Int32, ∃ a3 : Nat → Int32, (i10 = nI 0 ∧ ((∃ i j : Nat, 1 ≤ i ∧ i ≤ 5 ∧ 1 ≤ j ∧ j ≤ 4 ∧ i0 = nI i ∧ i1 = nI j ∧ i4 = nI 0 ∧ i5 = nI 0 ∧ ∀ q : Nat, q < 25 → b9 (a3 q)) ∨ (i0 = I 0 ∧ i1 = I 1 ∧ i4 = I 4 ∧ i5 = I 5 ∧ a3 = A 3))) ∧ u = ((va_up (va_up (va_up (va_up (va_up (va_up (va_up (va_up (va_up I 11 i11) 12 i12) 14 i14) 15 i15) 10 i10) 0 i0) 1 i1) 4 i4) 5 i5), L, (va_up (va_up A 13 a13) 3 a3), Q)) (xB (dC, dI) (tysA cs) A0 (fun u : RS => rW h cs u.1 u.2.1 u.2.2.1 u.2.2.2)) A0) ([.ref (h 0)] : List Value).toArray s 0 0 A0) (F0 m 201 ls []) := by
                intro nf
                induction nf with
                | zero => intro n t3 hm; exact absurd hm (Nat.not_lt_zero _)
                | succ nf ih_201 =>
                  intro n t3 hm_201 hn201 ht201 H locs ls hP hD hS hl
                  refine lv_iload_n hx hb dX10_read_201 rfl (lv_at hl 3 rfl) ?_
                  refine lv_aload_n hx hb dX10_read_202 rfl (lv_at hl 0 rfl) ?_
                  refine va_get (D := (dC, dI)) (ci := 10) (v := .int (nI rr)) (C := RX10) (T := TX10) (N := 28) hx hb hts hinX10 hown hK hP 0 rfl rfl 0 (by decide) (hts (.fieldLink RX10 7 "MixedWordsModel" "rows" "I") (by decide +kernel)) (fun _ h9 => h9) rfl dX10_read_203 ?_
                  refine xn_ge (tgt := 256) hx hb dX10_read_206 (by decide) (by omega) (by omega) (fun c_206_11 => ?_) (fun c_206_11 => ?_)
                  · skip
                    refine lv_aload_n hx hb dX10_read_256 rfl (lv_at hl 0 rfl) ?_
                    refine va_get (D := (dC, dI)) (ci := 10) (v := .int (nI rr)) (C := RX10) (T := TX10) (N := 28) hx hb hts hinX10 hown hK hP 0 rfl rfl 0 (by decide) (hts (.fieldLink RX10 7 "MixedWordsModel" "rows" "I") (by decide +kernel)) (fun _ h9 => h9) rfl dX10_read_257 ?_
                    exact xr_i (v := (nI rr)) hx hb hr hlocks hK hS dX10_read_260 ((va_up (va_up (va_up (va_up (va_up (va_up (va_up (va_up (va_up I 11 (nI a1)) 12 w1) 14 (nI rr)) 15 c15) 10 (nI 0)) 0 (nI rr)) 1 (nI cc)) 4 (nI 0)) 5 (nI 0)), L, (va_up (va_up A 13 g) 3 t3), Q) ⟨(nI a1), w1, (nI rr), c15, (nI 0), (nI rr), (nI cc), (nI 0), (nI 0), g, t3, ⟨rfl, Or.inl ⟨rr, cc, by omega, by omega, by omega, by omega, rfl, rfl, rfl, rfl, ht201⟩⟩, rfl⟩ hP hD
                  · skip
                    refine lv_iconst (v := nI 0) hx hb dX10_read_209 (by decide) ?_
                    refine lv_istore (lv' := [(4, .int (nI 0)), (0, .ref (h 0)), (1, .int (nI m1)), (2, .int (nI 1)), (3, .int (nI n))]) hx hb dX10_read_210 hl (by decide) rfl (fun ls hl => ?_)
                    have cut_212 : ∀ (nf : Nat) (k : Nat) (t4 : Nat → Int32), (cc - k) < nf → (k ≤ cc) → (∀ q : Nat, q < 25 → b9 (t4 q)) → ∀ (H : Heap) (locs : List Loc) (ls : Array Slot), va_P (dC, dI) vwCl (rW h cs (va_up (va_up (va_up (va_up (va_up (va_up (va_up (va_up (va_up I 11 (nI a1)) 12 w1) 14 (nI rr)) 15 c15) 10 (nI 0)) 0 (nI rr)) 1 (nI cc)) 4 (nI 0)) 5 (nI 0)) L (va_up (va_up A 13 g) 3 t4) Q) H → va_D A0 (rW h cs (va_up (va_up (va_up (va_up (va_up (va_up (va_up (va_up (va_up I 11 (nI a1)) 12 w1) 14 (nI rr)) 15 c15) 10 (nI 0)) 0 (nI rr)) 1 (nI cc)) 4 (nI 0)) 5 (nI 0)) L (va_up (va_up A 13 g) 3 t4) Q) → va_S A0 s.heap H locs → lv_has ls 5 [(0, .ref (h 0)), (1, .int (nI m1)), (2, .int (nI 1)), (3, .int (nI n)), (4, .int (nI k))] → W p l e (headSpec wsX10_read ({ frames := 3, cells := 0, slots := 0, locals := 71 })).room s m ([.ref (h 0)] : List Value).toArray below meth c H locs 0 0 (MQ below (va_Qi (fun (r : Int32) (u : RS) => ∃ i11 : Int32, ∃ i12 : Int32, ∃ i14 : Int32, ∃ i15 : Int32, ∃ i10 : Int32, ∃ i0 : Int32, ∃ i1 : Int32, ∃ i4 : Int32, ∃ i5 : Int32, ∃ a13 : Nat → Int32, ∃ a3 : Nat → Int32, (i10 = nI 0 ∧ ((∃ i j : Nat, 1 ≤ i ∧ i ≤ 5 ∧ 1 ≤ j ∧ j ≤ 4 ∧ i0 = nI i ∧ i1 = nI j ∧ i4 = nI 0 ∧ i5 = nI 0 ∧ ∀ q : Nat, q < 25 → b9 (a3 q)) ∨ (i0 = I 0 ∧ i1 = I 1 ∧ i4 = I 4 ∧ i5 = I 5 ∧ a3 = A 3))) ∧ u = ((va_up (va_up (va_up (va_up (va_up (va_up (va_up (va_up (va_up I 11 i11) 12 i12) 14 i14) 15 i15) 10 i10) 0 i0) 1 i1) 4 i4) 5 i5), L, (va_up (va_up A 13 a13) 3 a3), Q)) (xB (dC, dI) (tysA cs) A0 (fun u : RS => rW h cs u.1 u.2.1 u.2.2.1 u.2.2.2)) A0) ([.ref (h 0)] : List Value).toArray s 0 0 A0) (F0 m 212 ls []) := by
                      intro nf
                      induction nf with
                      | zero => intro k t4 hm; exact absurd hm (Nat.not_lt_zero _)
                      | succ nf ih_212 =>
                        intro k t4 hm_212 hk212 ht212 H locs ls hP hD hS hl
                        refine lv_iload hx hb dX10_read_212 (lv_at hl 4 rfl) ?_
                        refine lv_aload_n hx hb dX10_read_214 rfl (lv_at hl 0 rfl) ?_
                        refine va_get (D := (dC, dI)) (ci := 10) (v := .int (nI cc)) (C := RX10) (T := TX10) (N := 28) hx hb hts hinX10 hown hK hP 0 rfl rfl 1 (by decide) (hts (.fieldLink RX10 13 "MixedWordsModel" "columns" "I") (by decide +kernel)) (fun _ h9 => h9) rfl dX10_read_215 ?_
                        refine xn_ge (tgt := 250) hx hb dX10_read_218 (by decide) (by omega) (by omega) (fun c_218_12 => ?_) (fun c_218_12 => ?_)
                        · skip
                          refine lv_iinc (v := nI (n + 1)) (lv' := [(3, .int (nI (n + 1))), (0, .ref (h 0)), (1, .int (nI m1)), (2, .int (nI 1)), (4, .int (nI k))]) hx hb dX10_read_250 hl (k := 3) rfl (nI_1 _) (by decide) rfl (fun ls hl => ?_)
                          refine lv_goto (tgt := 201) hx hb dX10_read_253 (by decide) ?_
                          exact ih_201 (n + 1) t4 (by omega) (by first | assumption | omega) (by first | exact hz0 | exact ht212) _ _ _ hP hD hS (lv_sub hl [1, 2, 3, 0] rfl)
                        · skip
                          refine lv_aload_n hx hb dX10_read_221 rfl (lv_at hl 0 rfl) ?_
                          refine va_get (D := (dC, dI)) (ci := 10) (v := .ref (h 3)) (C := RX10) (T := TX10) (N := 28) hx hb hts hinX10 hown hK hP 0 rfl rfl 3 (by decide) (hts (.fieldLink RX10 19 "MixedWordsModel" "told" "[I") (by decide +kernel)) (fun _ h9 => h9) rfl dX10_read_222 ?_
                          refine lv_aload_n hx hb dX10_read_225 rfl (lv_at hl 0 rfl) ?_
                          refine lv_iload_n hx hb dX10_read_226 rfl (lv_at hl 3 rfl) ?_
                          refine lv_iload hx hb dX10_read_227 (lv_at hl 4 rfl) ?_
                          refine xj_i (wc := (rW h cs (va_up (va_up (va_up (va_up (va_up (va_up (va_up (va_up (va_up I 11 (nI a1)) 12 w1) 14 (nI rr)) 15 c15) 10 (nI 0)) 0 (nI rr)) 1 (nI cc)) 4 (nI 0)) 5 (nI 0)) L (va_up (va_up A 13 g) 3 t4) Q)) (wr := ([] : va_W)) hP hD hS hA [0, 1, 2, 3, 4, 5, 6, 7, 8, 9, 10, 11, 12, 13, 14, 15, 16] [] rfl rfl (by decide) (by decide) (va_runV (As := [.int (nI n), .int (nI k)]) (rest := [.ref (h 3)]) ⟨hx, hb, hml, hown, hts⟩ (k_X10_place l dC dI h cs H.size (va_up (va_up (va_up (va_up (va_up (va_up (va_up (va_up (va_up I 11 (nI a1)) 12 w1) 14 (nI rr)) 15 c15) 10 (nI 0)) 0 (nI rr)) 1 (nI cc)) 4 (nI 0)) 5 (nI 0)) L (va_up (va_up A 13 g) 3 t4) Q n k cc (by first | assumption | omega) (by first | assumption | omega) rfl (by first | assumption | omega) (by first | assumption | omega)) (cwV 2 hts gX10_read_X10_place rfl rfl rfl (by decide +kernel) ⟨Nat.le_of_ble_eq_true rfl, Nat.le_of_ble_eq_true rfl⟩) (xpV (wc := (rW h cs (va_up (va_up (va_up (va_up (va_up (va_up (va_up (va_up (va_up I 11 (nI a1)) 12 w1) 14 (nI rr)) 15 c15) 10 (nI 0)) 0 (nI rr)) 1 (nI cc)) 4 (nI 0)) 5 (nI 0)) L (va_up (va_up A 13 g) 3 t4) Q)) hP hD hK hN [0, 1, 2, 3, 4, 5, 6, 7, 8, 9, 10, 11, 12, 13, 14, 15, 16] rfl (by decide) 0 (ci := 10) rfl rfl _) rfl rfl hl.1 rfl (lv_room (Nat.le_of_ble_eq_true rfl)) dX10_read_229 ⟨Nat.zero_le _, Nat.zero_le _⟩) (fun r_15 u_14 H locs hw hP hD hS => ?_)
                          obtain ⟨hf_16, rfl⟩ := hw
                          have hP : va_P (dC, dI) vwCl (rW h cs (va_up (va_up (va_up (va_up (va_up (va_up (va_up (va_up (va_up I 11 (nI a1)) 12 w1) 14 (nI rr)) 15 c15) 10 (nI 0)) 0 (nI rr)) 1 (nI cc)) 4 (nI 0)) 5 (nI 0)) L (va_up (va_up A 13 g) 3 t4) Q) H := hP
                          have hD : va_D A0 (rW h cs (va_up (va_up (va_up (va_up (va_up (va_up (va_up (va_up (va_up I 11 (nI a1)) 12 w1) 14 (nI rr)) 15 c15) 10 (nI 0)) 0 (nI rr)) 1 (nI cc)) 4 (nI 0)) 5 (nI 0)) L (va_up (va_up A 13 g) 3 t4) Q) := hD
                          obtain rfl := hf_16
                          have hpl9 : plc cc n k < 25 := plc_lt (by omega) (by omega) (by omega)
                          refine lv_aload_n hx hb dX10_read_232 rfl (lv_at hl 0 rfl) ?_
                          refine va_get (D := (dC, dI)) (ci := 10) (v := .ref (h 13)) (C := RX10) (T := TX10) (N := 28) hx hb hts hinX10 hown hK hP 0 rfl rfl 13 (by decide) (hts (.fieldLink RX10 35 "MixedWordsModel" "readAt" "[I") (by decide +kernel)) (fun _ h9 => h9) rfl dX10_read_233 ?_
                          refine lv_iconst (v := nI 4) hx hb dX10_read_236 (by decide) ?_
                          refine lv_iload_n hx hb dX10_read_237 rfl (lv_at hl 3 rfl) ?_
                          refine lv_imul hx hb dX10_read_238 ?_
                          refine xt_i (y := nI (4 * n)) (pk_mul _ _) ?_
                          refine lv_iload hx hb dX10_read_239 (lv_at hl 4 rfl) ?_
                          refine lv_iadd hx hb dX10_read_241 ?_
                          refine xt_i (y := nI ((4 * n) + k)) (nI_add _ _) ?_
                          refine xa_iald hx hb hK hP 6 0 rfl rfl (by omega) (by decide) dX10_read_242 ?_
                          refine xa_iast hx hb hK hP hD hS 1 0 rfl rfl (by omega) (by decide) dX10_read_243 (fun H locs hP hD hS => ?_)
                          have hP : va_P (dC, dI) vwCl (rW h cs (va_up (va_up (va_up (va_up (va_up (va_up (va_up (va_up (va_up I 11 (nI a1)) 12 w1) 14 (nI rr)) 15 c15) 10 (nI 0)) 0 (nI rr)) 1 (nI cc)) 4 (nI 0)) 5 (nI 0)) L (va_up (va_up A 13 g) 3 (upd t4 (plc cc n k) (g ((4 * n) + k)))) Q) H := hP
                          have hD : va_D A0 (rW h cs (va_up (va_up (va_up (va_up (va_up (va_up (va_up (va_up (va_up I 11 (nI a1)) 12 w1) 14 (nI rr)) 15 c15) 10 (nI 0)) 0 (nI rr)) 1 (nI cc)) 4 (nI 0)) 5 (nI 0)) L (va_up (va_up A 13 g) 3 (upd t4 (plc cc n k) (g ((4 * n) + k)))) Q) := hD
                          refine lv_iinc (v := nI (k + 1)) (lv' := [(4, .int (nI (k + 1))), (0, .ref (h 0)), (1, .int (nI m1)), (2, .int (nI 1)), (3, .int (nI n))]) hx hb dX10_read_244 hl (k := 4) rfl (nI_1 _) (by decide) rfl (fun ls hl => ?_)
                          refine lv_goto (tgt := 212) hx hb dX10_read_247 (by decide) ?_
                          exact ih_212 (k + 1) (upd t4 (plc cc n k) (g ((4 * n) + k))) (by omega) (by first | assumption | omega) (by first | exact ht201 | exact b9_upd ht212 (hb17 (by assumption) n k (by omega) (by omega))) _ _ _ hP hD hS (lv_sub hl [1, 2, 3, 4, 0] rfl)
                    exact cut_212 _ 0 t3 (Nat.lt_succ_self _) (by first | assumption | omega) (by first | exact ht201 | exact b9_upd ht212 (hb17 (by assumption) n k (by omega) (by omega))) _ _ _ hP hD hS (lv_sub hl [1, 2, 3, 4, 0] rfl)
              exact cut_201 _ 0 f_10 (Nat.lt_succ_self _) (by first | assumption | omega) (by first | exact hz0 | exact ht212) _ _ _ hP hD hS (lv_sub hl [2, 3, 1, 0] rfl)
            · skip
              exact (hn9 rr cc (by omega) (by omega) (by omega) (by omega) rfl rfl).elim
          · skip
            refine lv_bipush (v := (-20)) hx hb dX10_read_178 (by decide) ?_
            refine lv_aload_n hx hb dX10_read_180 rfl (lv_at hl 0 rfl) ?_
            refine va_get (D := (dC, dI)) (ci := 10) (v := .int w1) (C := RX10) (T := TX10) (N := 28) hx hb hts hinX10 hown hK hP 0 rfl rfl 12 (by decide) (hts (.fieldLink RX10 122 "MixedWordsModel" "wrong" "I") (by decide +kernel)) (fun _ h9 => h9) rfl dX10_read_181 ?_
            refine lv_isub hx hb dX10_read_184 ?_
            exact xr_i (v := ((-20) - w1)) hx hb hr hlocks hK hS dX10_read_185 ((va_up (va_up (va_up (va_up (va_up (va_up (va_up (va_up (va_up I 11 (nI a1)) 12 w1) 14 (nI rr)) 15 c15) 10 (nI 0)) 0 (I 0)) 1 (I 1)) 4 (I 4)) 5 (I 5)), L, (va_up (va_up A 13 g) 3 (A 3)), Q) ⟨(nI a1), w1, (nI rr), c15, (nI 0), (I 0), (I 1), (I 4), (I 5), g, (A 3), ⟨rfl, Or.inr ⟨rfl, rfl, rfl, rfl, rfl⟩⟩, rfl⟩ hP hD
        · skip
          refine lv_aload_n hx hb dX10_read_151 rfl (lv_at hl 0 rfl) ?_
          refine xj_i (wc := (rW h cs (va_up (va_up (va_up (va_up I 11 (nI a1)) 12 w1) 14 (nI rr)) 15 c15) L (va_up A 13 g) Q)) (wr := ([] : va_W)) hP hD hS hA [0, 1, 2, 3, 4, 5, 6, 7, 8, 9, 10, 11, 12, 13, 14, 15, 16] [] rfl rfl (by decide) (by decide) (va_runV (As := []) (rest := []) ⟨hx, hb, hml, hown, hts⟩ (k_X10_next l dC dI h cs H.size (va_up (va_up (va_up (va_up I 11 (nI a1)) 12 w1) 14 (nI rr)) 15 c15) L (va_up A 13 g) Q T a1 hT (by first | assumption | omega | exact hT9) rfl (by first | assumption | omega)) (cwV 0 hts gX10_read_X10_next rfl rfl rfl (by decide +kernel) ⟨Nat.le_of_ble_eq_true rfl, Nat.le_of_ble_eq_true rfl⟩) (xpV (wc := (rW h cs (va_up (va_up (va_up (va_up I 11 (nI a1)) 12 w1) 14 (nI rr)) 15 c15) L (va_up A 13 g) Q)) hP hD hK hN [0, 1, 2, 3, 4, 5, 6, 7, 8, 9, 10, 11, 12, 13, 14, 15, 16] rfl (by decide) 0 (ci := 10) rfl rfl _) rfl rfl hl.1 rfl (lv_room (Nat.le_of_ble_eq_true rfl)) dX10_read_152 ⟨Nat.zero_le _, Nat.zero_le _⟩) (fun r_18 u_17 H locs hw hP hD hS => ?_)
          obtain ⟨x11_19, hf_20, rfl⟩ := hw
          have hP : va_P (dC, dI) vwCl (rW h cs (va_up (va_up (va_up (va_up I 12 w1) 14 (nI rr)) 15 c15) 11 x11_19) L (va_up A 13 g) Q) H := hP
          have hD : va_D A0 (rW h cs (va_up (va_up (va_up (va_up I 12 w1) 14 (nI rr)) 15 c15) 11 x11_19) L (va_up A 13 g) Q) := hD
          obtain ⟨j_21, hsk9, rfl, rfl⟩ := hf_20
          have hskT := hsk9.2.1
          refine lv_if_eq (tgt := 166) hx hb dX10_read_155 (by decide) (fun c_155_21 => ?_) (fun c_155_21 => ?_)
          · skip
            refine lv_aload_n hx hb dX10_read_166 rfl (lv_at hl 0 rfl) ?_
            refine lv_iconst (v := nI 0) hx hb dX10_read_167 (by decide) ?_
            refine va_put (D := (dC, dI)) (ci := 10) (v := .int (nI 0)) (ty := .int) (C := RX10) (T := TX10) (N := 28) hx hb hts hinX10 tyX10 tyX10_ok nmX10 hown hK hP hD hS 0 rfl rfl 10 (by decide) (hts (.fieldLink RX10 116 "MixedWordsModel" "taped" "I") (by decide +kernel)) (fun _ h9 => h9) rfl (by decide +kernel) rfl rfl (Nat.le_of_ble_eq_true rfl) dX10_read_168 (fun H locs hP hD hS => ?_)
            have hP : va_P (dC, dI) vwCl (rW h cs (va_up (va_up (va_up (va_up (va_up I 12 w1) 14 (nI rr)) 15 c15) 11 (nI j_21)) 10 (nI 0)) L (va_up A 13 g) Q) H := hP
            have hD : va_D A0 (rW h cs (va_up (va_up (va_up (va_up (va_up I 12 w1) 14 (nI rr)) 15 c15) 11 (nI j_21)) 10 (nI 0)) L (va_up A 13 g) Q) := hD
            refine lv_aload_n hx hb dX10_read_171 rfl (lv_at hl 0 rfl) ?_
            refine va_get (D := (dC, dI)) (ci := 10) (v := .int w1) (C := RX10) (T := TX10) (N := 28) hx hb hts hinX10 hown hK hP 0 rfl rfl 12 (by decide) (hts (.fieldLink RX10 122 "MixedWordsModel" "wrong" "I") (by decide +kernel)) (fun _ h9 => h9) rfl dX10_read_172 ?_
            refine lv_if_lt (tgt := 186) hx hb dX10_read_175 (by decide) (fun c_175_22 => ?_) (fun c_175_22 => ?_)
            · skip
              refine lv_aload_n hx hb dX10_read_186 rfl (lv_at hl 0 rfl) ?_
              refine lv_aload_n hx hb dX10_read_187 rfl (lv_at hl 0 rfl) ?_
              refine va_get (D := (dC, dI)) (ci := 10) (v := .int (nI rr)) (C := RX10) (T := TX10) (N := 28) hx hb hts hinX10 hown hK hP 0 rfl rfl 14 (by decide) (hts (.fieldLink RX10 137 "MixedWordsModel" "readRows" "I") (by decide +kernel)) (fun _ h9 => h9) rfl dX10_read_188 ?_
              refine lv_aload_n hx hb dX10_read_191 rfl (lv_at hl 0 rfl) ?_
              refine va_get (D := (dC, dI)) (ci := 10) (v := .int c15) (C := RX10) (T := TX10) (N := 28) hx hb hts hinX10 hown hK hP 0 rfl rfl 15 (by decide) (hts (.fieldLink RX10 143 "MixedWordsModel" "readColumns" "I") (by decide +kernel)) (fun _ h9 => h9) rfl dX10_read_192 ?_
              obtain ⟨hc1, hc2, hc3⟩ := hc17 (by omega)
              refine xt_i (y := nI cc) (hc1) ?_
              refine xj_i (wc := (rW h cs (va_up (va_up (va_up (va_up (va_up I 12 w1) 14 (nI rr)) 15 c15) 11 (nI j_21)) 10 (nI 0)) L (va_up A 13 g) Q)) (wr := ([] : va_W)) hP hD hS hA [0, 1, 2, 3, 4, 5, 6, 7, 8, 9, 10, 11, 12, 13, 14, 15, 16] [] rfl rfl (by decide) (by decide) (va_runV (As := [.int (nI rr), .int (nI cc)]) (rest := []) ⟨hx, hb, hml, hown, hts⟩ (k_X10_table l dC dI h cs H.size (va_up (va_up (va_up (va_up (va_up I 12 w1) 14 (nI rr)) 15 c15) 11 (nI j_21)) 10 (nI 0)) L (va_up A 13 g) Q (nI rr) (nI cc)) (cwV 2 hts gX10_read_X10_table rfl rfl rfl (by decide +kernel) ⟨Nat.le_of_ble_eq_true rfl, Nat.le_of_ble_eq_true rfl⟩) (xpV (wc := (rW h cs (va_up (va_up (va_up (va_up (va_up I 12 w1) 14 (nI rr)) 15 c15) 11 (nI j_21)) 10 (nI 0)) L (va_up A 13 g) Q)) hP hD hK hN [0, 1, 2, 3, 4, 5, 6, 7, 8, 9, 10, 11, 12, 13, 14, 15, 16] rfl (by decide) 0 (ci := 10) rfl rfl _) rfl rfl hl.1 rfl (lv_room (Nat.le_of_ble_eq_true rfl)) dX10_read_195 ⟨Nat.zero_le _, Nat.zero_le _⟩) (fun r_25 u_24 H locs hw hP hD hS => ?_)
              obtain ⟨x0_26, x1_27, x4_28, x5_29, f_30, hf_31, rfl⟩ := hw
              have hP : va_P (dC, dI) vwCl (rW h cs (va_up (va_up (va_up (va_up (va_up (va_up (va_up (va_up (va_up I 12 w1) 14 (nI rr)) 15 c15) 11 (nI j_21)) 10 (nI 0)) 0 x0_26) 1 x1_27) 4 x4_28) 5 x5_29) L (va_up (va_up A 13 g) 3 f_30) Q) H := hP
              have hD : va_D A0 (rW h cs (va_up (va_up (va_up (va_up (va_up (va_up (va_up (va_up (va_up I 12 w1) 14 (nI rr)) 15 c15) 11 (nI j_21)) 10 (nI 0)) 0 x0_26) 1 x1_27) 4 x4_28) 5 x5_29) L (va_up (va_up A 13 g) 3 f_30) Q) := hD
              rcases hf_31 with ⟨rfl, i9, j9, k1, k2, k3, k4, e1, e2, rfl, rfl, rfl, rfl, hz9⟩ | ⟨-, hn9, -⟩
              · skip
                obtain rfl : rr = i9 := (nI_eq (by omega) (by omega)).mp e1
                obtain rfl : cc = j9 := (nI_eq (by omega) (by omega)).mp e2
                have hz0 := b9_0 hz9
                refine lv_istore_n (lv' := [(2, .int (nI 1)), (0, .ref (h 0)), (1, .int (nI m1))]) hx hb dX10_read_198 rfl hl (by decide) rfl (fun ls hl => ?_)
                refine lv_iconst (v := nI 0) hx hb dX10_read_199 (by decide) ?_
                refine lv_istore_n (lv' := [(3, .int (nI 0)), (2, .int (nI 1)), (0, .ref (h 0)), (1, .int (nI m1))]) hx hb dX10_read_200 rfl hl (by decide) rfl (fun ls hl => ?_)
                have cut_201 : ∀ (nf : Nat) (n : Nat) (t3 : Nat → Int32), (rr - n) < nf → (n ≤ rr) → (∀ q : Nat, q < 25 → b9 (t3 q)) → ∀ (H : Heap) (locs : List Loc) (ls : Array Slot), va_P (dC, dI) vwCl (rW h cs (va_up (va_up (va_up (va_up (va_up (va_up (va_up (va_up (va_up I 12 w1) 14 (nI rr)) 15 c15) 11 (nI j_21)) 10 (nI 0)) 0 (nI rr)) 1 (nI cc)) 4 (nI 0)) 5 (nI 0)) L (va_up (va_up A 13 g) 3 t3) Q) H → va_D A0 (rW h cs (va_up (va_up (va_up (va_up (va_up (va_up (va_up (va_up (va_up I 12 w1) 14 (nI rr)) 15 c15) 11 (nI j_21)) 10 (nI 0)) 0 (nI rr)) 1 (nI cc)) 4 (nI 0)) 5 (nI 0)) L (va_up (va_up A 13 g) 3 t3) Q) → va_S A0 s.heap H locs → lv_has ls 5 [(0, .ref (h 0)), (1, .int (nI m1)), (2, .int (nI 1)), (3, .int (nI n))] → W p l e (headSpec wsX10_read ({ frames := 3, cells := 0, slots := 0, locals := 71 })).room s m ([.ref (h 0)] : List Value).toArray below meth c H locs 0 0 (MQ below (va_Qi (fun (r : Int32) (u : RS) => ∃ i11 : Int32, ∃ i12 : Int32, ∃ i14 : Int32, ∃ i15 : Int32, ∃ i10 : Int32, ∃ i0 : Int32, ∃ i1 : Int32, ∃ i4 : Int32, ∃ i5 : Int32, ∃ a13 : Nat → Int32, ∃ a3 : Nat → Int32, (i10 = nI 0 ∧ ((∃ i j : Nat, 1 ≤ i ∧ i ≤ 5 ∧ 1 ≤ j ∧ j ≤ 4 ∧ i0 = nI i ∧ i1 = nI j ∧ i4 = nI 0 ∧ i5 = nI 0 ∧ ∀ q : Nat, q < 25 → b9 (a3 q)) ∨ (i0 = I 0 ∧ i1 = I 1 ∧ i4 = I 4 ∧ i5 = I 5 ∧ a3 = A 3))) ∧ u = ((va_up (va_up (va_up (va_up (va_up (va_up (va_up (va_up (va_up I 11 i11) 12 i12) 14 i14) 15 i15) 10 i10) 0 i0) 1 i1) 4 i4) 5 i5), L, (va_up (va_up A 13 a13) 3 a3), Q)) (xB (dC, dI) (tysA cs) A0 (fun u : RS => rW h cs u.1 u.2.1 u.2.2.1 u.2.2.2)) A0) ([.ref (h 0)] : List Value).toArray s 0 0 A0) (F0 m 201 ls []) := by
                  intro nf
                  induction nf with
                  | zero => intro n t3 hm; exact absurd hm (Nat.not_lt_zero _)
                  | succ nf ih_201 =>
                    intro n t3 hm_201 hn201 ht201 H locs ls hP hD hS hl
                    refine lv_iload_n hx hb dX10_read_201 rfl (lv_at hl 3 rfl) ?_
                    refine lv_aload_n hx hb dX10_read_202 rfl (lv_at hl 0 rfl) ?_
                    refine va_get (D := (dC, dI)) (ci := 10) (v := .int (nI rr)) (C := RX10) (T := TX10) (N := 28) hx hb hts hinX10 hown hK hP 0 rfl rfl 0 (by decide) (hts (.fieldLink RX10 7 "MixedWordsModel" "rows" "I") (by decide +kernel)) (fun _ h9 => h9) rfl dX10_read_203 ?_
                    refine xn_ge (tgt := 256) hx hb dX10_read_206 (by decide) (by omega) (by omega) (fun c_206_31 => ?_) (fun c_206_31 => ?_)
                    · skip
                      refine lv_aload_n hx hb dX10_read_256 rfl (lv_at hl 0 rfl) ?_
                      refine va_get (D := (dC, dI)) (ci := 10) (v := .int (nI rr)) (C := RX10) (T := TX10) (N := 28) hx hb hts hinX10 hown hK hP 0 rfl rfl 0 (by decide) (hts (.fieldLink RX10 7 "MixedWordsModel" "rows" "I") (by decide +kernel)) (fun _ h9 => h9) rfl dX10_read_257 ?_
                      exact xr_i (v := (nI rr)) hx hb hr hlocks hK hS dX10_read_260 ((va_up (va_up (va_up (va_up (va_up (va_up (va_up (va_up (va_up I 11 (nI j_21)) 12 w1) 14 (nI rr)) 15 c15) 10 (nI 0)) 0 (nI rr)) 1 (nI cc)) 4 (nI 0)) 5 (nI 0)), L, (va_up (va_up A 13 g) 3 t3), Q) ⟨(nI j_21), w1, (nI rr), c15, (nI 0), (nI rr), (nI cc), (nI 0), (nI 0), g, t3, ⟨rfl, Or.inl ⟨rr, cc, by omega, by omega, by omega, by omega, rfl, rfl, rfl, rfl, ht201⟩⟩, rfl⟩ hP hD
                    · skip
                      refine lv_iconst (v := nI 0) hx hb dX10_read_209 (by decide) ?_
                      refine lv_istore (lv' := [(4, .int (nI 0)), (0, .ref (h 0)), (1, .int (nI m1)), (2, .int (nI 1)), (3, .int (nI n))]) hx hb dX10_read_210 hl (by decide) rfl (fun ls hl => ?_)
                      have cut_212 : ∀ (nf : Nat) (k : Nat) (t4 : Nat → Int32), (cc - k) < nf → (k ≤ cc) → (∀ q : Nat, q < 25 → b9 (t4 q)) → ∀ (H : Heap) (locs : List Loc) (ls : Array Slot), va_P (dC, dI) vwCl (rW h cs (va_up (va_up (va_up (va_up (va_up (va_up (va_up (va_up (va_up I 12 w1) 14 (nI rr)) 15 c15) 11 (nI j_21)) 10 (nI 0)) 0 (nI rr)) 1 (nI cc)) 4 (nI 0)) 5 (nI 0)) L (va_up (va_up A 13 g) 3 t4) Q) H → va_D A0 (rW h cs (va_up (va_up (va_up (va_up (va_up (va_up (va_up (va_up (va_up I 12 w1) 14 (nI rr)) 15 c15) 11 (nI j_21)) 10 (nI 0)) 0 (nI rr)) 1 (nI cc)) 4 (nI 0)) 5 (nI 0)) L (va_up (va_up A 13 g) 3 t4) Q) → va_S A0 s.heap H locs → lv_has ls 5 [(0, .ref (h 0)), (1, .int (nI m1)), (2, .int (nI 1)), (3, .int (nI n)), (4, .int (nI k))] → W p l e (headSpec wsX10_read ({ frames := 3, cells := 0, slots := 0, locals := 71 })).room s m ([.ref (h 0)] : List Value).toArray below meth c H locs 0 0 (MQ below (va_Qi (fun (r : Int32) (u : RS) => ∃ i11 : Int32, ∃ i12 : Int32, ∃ i14 : Int32, ∃ i15 : Int32, ∃ i10 : Int32, ∃ i0 : Int32, ∃ i1 : Int32, ∃ i4 : Int32, ∃ i5 : Int32, ∃ a13 : Nat → Int32, ∃ a3 : Nat → Int32, (i10 = nI 0 ∧ ((∃ i j : Nat, 1 ≤ i ∧ i ≤ 5 ∧ 1 ≤ j ∧ j ≤ 4 ∧ i0 = nI i ∧ i1 = nI j ∧ i4 = nI 0 ∧ i5 = nI 0 ∧ ∀ q : Nat, q < 25 → b9 (a3 q)) ∨ (i0 = I 0 ∧ i1 = I 1 ∧ i4 = I 4 ∧ i5 = I 5 ∧ a3 = A 3))) ∧ u = ((va_up (va_up (va_up (va_up (va_up (va_up (va_up (va_up (va_up I 11 i11) 12 i12) 14 i14) 15 i15) 10 i10) 0 i0) 1 i1) 4 i4) 5 i5), L, (va_up (va_up A 13 a13) 3 a3), Q)) (xB (dC, dI) (tysA cs) A0 (fun u : RS => rW h cs u.1 u.2.1 u.2.2.1 u.2.2.2)) A0) ([.ref (h 0)] : List Value).toArray s 0 0 A0) (F0 m 212 ls []) := by
                        intro nf
                        induction nf with
                        | zero => intro k t4 hm; exact absurd hm (Nat.not_lt_zero _)
                        | succ nf ih_212 =>
                          intro k t4 hm_212 hk212 ht212 H locs ls hP hD hS hl
                          refine lv_iload hx hb dX10_read_212 (lv_at hl 4 rfl) ?_
                          refine lv_aload_n hx hb dX10_read_214 rfl (lv_at hl 0 rfl) ?_
                          refine va_get (D := (dC, dI)) (ci := 10) (v := .int (nI cc)) (C := RX10) (T := TX10) (N := 28) hx hb hts hinX10 hown hK hP 0 rfl rfl 1 (by decide) (hts (.fieldLink RX10 13 "MixedWordsModel" "columns" "I") (by decide +kernel)) (fun _ h9 => h9) rfl dX10_read_215 ?_
                          refine xn_ge (tgt := 250) hx hb dX10_read_218 (by decide) (by omega) (by omega) (fun c_218_32 => ?_) (fun c_218_32 => ?_)
                          · skip
                            refine lv_iinc (v := nI (n + 1)) (lv' := [(3, .int (nI (n + 1))), (0, .ref (h 0)), (1, .int (nI m1)), (2, .int (nI 1)), (4, .int (nI k))]) hx hb dX10_read_250 hl (k := 3) rfl (nI_1 _) (by decide) rfl (fun ls hl => ?_)
                            refine lv_goto (tgt := 201) hx hb dX10_read_253 (by decide) ?_
                            exact ih_201 (n + 1) t4 (by omega) (by first | assumption | omega) (by first | exact hz0 | exact ht212) _ _ _ hP hD hS (lv_sub hl [1, 2, 3, 0] rfl)
                          · skip
                            refine lv_aload_n hx hb dX10_read_221 rfl (lv_at hl 0 rfl) ?_
                            refine va_get (D := (dC, dI)) (ci := 10) (v := .ref (h 3)) (C := RX10) (T := TX10) (N := 28) hx hb hts hinX10 hown hK hP 0 rfl rfl 3 (by decide) (hts (.fieldLink RX10 19 "MixedWordsModel" "told" "[I") (by decide +kernel)) (fun _ h9 => h9) rfl dX10_read_222 ?_
                            refine lv_aload_n hx hb dX10_read_225 rfl (lv_at hl 0 rfl) ?_
                            refine lv_iload_n hx hb dX10_read_226 rfl (lv_at hl 3 rfl) ?_
                            refine lv_iload hx hb dX10_read_227 (lv_at hl 4 rfl) ?_
                            refine xj_i (wc := (rW h cs (va_up (va_up (va_up (va_up (va_up (va_up (va_up (va_up (va_up I 12 w1) 14 (nI rr)) 15 c15) 11 (nI j_21)) 10 (nI 0)) 0 (nI rr)) 1 (nI cc)) 4 (nI 0)) 5 (nI 0)) L (va_up (va_up A 13 g) 3 t4) Q)) (wr := ([] : va_W)) hP hD hS hA [0, 1, 2, 3, 4, 5, 6, 7, 8, 9, 10, 11, 12, 13, 14, 15, 16] [] rfl rfl (by decide) (by decide) (va_runV (As := [.int (nI n), .int (nI k)]) (rest := [.ref (h 3)]) ⟨hx, hb, hml, hown, hts⟩ (k_X10_place l dC dI h cs H.size (va_up (va_up (va_up (va_up (va_up (va_up (va_up (va_up (va_up I 12 w1) 14 (nI rr)) 15 c15) 11 (nI j_21)) 10 (nI 0)) 0 (nI rr)) 1 (nI cc)) 4 (nI 0)) 5 (nI 0)) L (va_up (va_up A 13 g) 3 t4) Q n k cc (by first | assumption | omega) (by first | assumption | omega) rfl (by first | assumption | omega) (by first | assumption | omega)) (cwV 2 hts gX10_read_X10_place rfl rfl rfl (by decide +kernel) ⟨Nat.le_of_ble_eq_true rfl, Nat.le_of_ble_eq_true rfl⟩) (xpV (wc := (rW h cs (va_up (va_up (va_up (va_up (va_up (va_up (va_up (va_up (va_up I 12 w1) 14 (nI rr)) 15 c15) 11 (nI j_21)) 10 (nI 0)) 0 (nI rr)) 1 (nI cc)) 4 (nI 0)) 5 (nI 0)) L (va_up (va_up A 13 g) 3 t4) Q)) hP hD hK hN [0, 1, 2, 3, 4, 5, 6, 7, 8, 9, 10, 11, 12, 13, 14, 15, 16] rfl (by decide) 0 (ci := 10) rfl rfl _) rfl rfl hl.1 rfl (lv_room (Nat.le_of_ble_eq_true rfl)) dX10_read_229 ⟨Nat.zero_le _, Nat.zero_le _⟩) (fun r_35 u_34 H locs hw hP hD hS => ?_)
                            obtain ⟨hf_36, rfl⟩ := hw
                            have hP : va_P (dC, dI) vwCl (rW h cs (va_up (va_up (va_up (va_up (va_up (va_up (va_up (va_up (va_up I 12 w1) 14 (nI rr)) 15 c15) 11 (nI j_21)) 10 (nI 0)) 0 (nI rr)) 1 (nI cc)) 4 (nI 0)) 5 (nI 0)) L (va_up (va_up A 13 g) 3 t4) Q) H := hP
                            have hD : va_D A0 (rW h cs (va_up (va_up (va_up (va_up (va_up (va_up (va_up (va_up (va_up I 12 w1) 14 (nI rr)) 15 c15) 11 (nI j_21)) 10 (nI 0)) 0 (nI rr)) 1 (nI cc)) 4 (nI 0)) 5 (nI 0)) L (va_up (va_up A 13 g) 3 t4) Q) := hD
                            obtain rfl := hf_36
                            have hpl9 : plc cc n k < 25 := plc_lt (by omega) (by omega) (by omega)
                            refine lv_aload_n hx hb dX10_read_232 rfl (lv_at hl 0 rfl) ?_
                            refine va_get (D := (dC, dI)) (ci := 10) (v := .ref (h 13)) (C := RX10) (T := TX10) (N := 28) hx hb hts hinX10 hown hK hP 0 rfl rfl 13 (by decide) (hts (.fieldLink RX10 35 "MixedWordsModel" "readAt" "[I") (by decide +kernel)) (fun _ h9 => h9) rfl dX10_read_233 ?_
                            refine lv_iconst (v := nI 4) hx hb dX10_read_236 (by decide) ?_
                            refine lv_iload_n hx hb dX10_read_237 rfl (lv_at hl 3 rfl) ?_
                            refine lv_imul hx hb dX10_read_238 ?_
                            refine xt_i (y := nI (4 * n)) (pk_mul _ _) ?_
                            refine lv_iload hx hb dX10_read_239 (lv_at hl 4 rfl) ?_
                            refine lv_iadd hx hb dX10_read_241 ?_
                            refine xt_i (y := nI ((4 * n) + k)) (nI_add _ _) ?_
                            refine xa_iald hx hb hK hP 6 0 rfl rfl (by omega) (by decide) dX10_read_242 ?_
                            refine xa_iast hx hb hK hP hD hS 1 0 rfl rfl (by omega) (by decide) dX10_read_243 (fun H locs hP hD hS => ?_)
                            have hP : va_P (dC, dI) vwCl (rW h cs (va_up (va_up (va_up (va_up (va_up (va_up (va_up (va_up (va_up I 12 w1) 14 (nI rr)) 15 c15) 11 (nI j_21)) 10 (nI 0)) 0 (nI rr)) 1 (nI cc)) 4 (nI 0)) 5 (nI 0)) L (va_up (va_up A 13 g) 3 (upd t4 (plc cc n k) (g ((4 * n) + k)))) Q) H := hP
                            have hD : va_D A0 (rW h cs (va_up (va_up (va_up (va_up (va_up (va_up (va_up (va_up (va_up I 12 w1) 14 (nI rr)) 15 c15) 11 (nI j_21)) 10 (nI 0)) 0 (nI rr)) 1 (nI cc)) 4 (nI 0)) 5 (nI 0)) L (va_up (va_up A 13 g) 3 (upd t4 (plc cc n k) (g ((4 * n) + k)))) Q) := hD
                            refine lv_iinc (v := nI (k + 1)) (lv' := [(4, .int (nI (k + 1))), (0, .ref (h 0)), (1, .int (nI m1)), (2, .int (nI 1)), (3, .int (nI n))]) hx hb dX10_read_244 hl (k := 4) rfl (nI_1 _) (by decide) rfl (fun ls hl => ?_)
                            refine lv_goto (tgt := 212) hx hb dX10_read_247 (by decide) ?_
                            exact ih_212 (k + 1) (upd t4 (plc cc n k) (g ((4 * n) + k))) (by omega) (by first | assumption | omega) (by first | exact ht201 | exact b9_upd ht212 (hb17 (by assumption) n k (by omega) (by omega))) _ _ _ hP hD hS (lv_sub hl [1, 2, 3, 4, 0] rfl)
                      exact cut_212 _ 0 t3 (Nat.lt_succ_self _) (by first | assumption | omega) (by first | exact ht201 | exact b9_upd ht212 (hb17 (by assumption) n k (by omega) (by omega))) _ _ _ hP hD hS (lv_sub hl [1, 2, 3, 4, 0] rfl)
                exact cut_201 _ 0 f_30 (Nat.lt_succ_self _) (by first | assumption | omega) (by first | exact hz0 | exact ht212) _ _ _ hP hD hS (lv_sub hl [2, 3, 1, 0] rfl)
              · skip
                exact (hn9 rr cc (by omega) (by omega) (by omega) (by omega) rfl rfl).elim
            · skip
              refine lv_bipush (v := (-20)) hx hb dX10_read_178 (by decide) ?_
              refine lv_aload_n hx hb dX10_read_180 rfl (lv_at hl 0 rfl) ?_
              refine va_get (D := (dC, dI)) (ci := 10) (v := .int w1) (C := RX10) (T := TX10) (N := 28) hx hb hts hinX10 hown hK hP 0 rfl rfl 12 (by decide) (hts (.fieldLink RX10 122 "MixedWordsModel" "wrong" "I") (by decide +kernel)) (fun _ h9 => h9) rfl dX10_read_181 ?_
              refine lv_isub hx hb dX10_read_184 ?_
              exact xr_i (v := ((-20) - w1)) hx hb hr hlocks hK hS dX10_read_185 ((va_up (va_up (va_up (va_up (va_up (va_up (va_up (va_up (va_up I 11 (nI j_21)) 12 w1) 14 (nI rr)) 15 c15) 10 (nI 0)) 0 (I 0)) 1 (I 1)) 4 (I 4)) 5 (I 5)), L, (va_up (va_up A 13 g) 3 (A 3)), Q) ⟨(nI j_21), w1, (nI rr), c15, (nI 0), (I 0), (I 1), (I 4), (I 5), g, (A 3), ⟨rfl, Or.inr ⟨rfl, rfl, rfl, rfl, rfl⟩⟩, rfl⟩ hP hD
          · skip
            refine lv_aload_n hx hb dX10_read_158 rfl (lv_at hl 0 rfl) ?_
            refine lv_aload_n hx hb dX10_read_159 rfl (lv_at hl 0 rfl) ?_
            refine va_get (D := (dC, dI)) (ci := 10) (v := .int (nI j_21)) (C := RX10) (T := TX10) (N := 28) hx hb hts hinX10 hown hK hP 0 rfl rfl 11 (by decide) (hts (.fieldLink RX10 119 "MixedWordsModel" "at" "I") (by decide +kernel)) (fun _ h9 => h9) rfl dX10_read_160 ?_
            refine xj_v (wc := (rW h cs (va_up (va_up (va_up (va_up I 12 w1) 14 (nI rr)) 15 c15) 11 (nI j_21)) L (va_up A 13 g) Q)) (wr := ([] : va_W)) hP hD hS hA [0, 1, 2, 3, 4, 5, 6, 7, 8, 9, 10, 11, 12, 13, 14, 15, 16] [] rfl rfl (by decide) (by decide) (va_runV (As := [.int (nI j_21)]) (rest := []) ⟨hx, hb, hml, hown, hts⟩ (k_X10_fails l dC dI h cs H.size (va_up (va_up (va_up (va_up I 12 w1) 14 (nI rr)) 15 c15) 11 (nI j_21)) L (va_up A 13 g) Q j_21) (cwV 1 hts gX10_read_X10_fails rfl rfl rfl (by decide +kernel) ⟨Nat.le_of_ble_eq_true rfl, Nat.le_of_ble_eq_true rfl⟩) (xpV (wc := (rW h cs (va_up (va_up (va_up (va_up I 12 w1) 14 (nI rr)) 15 c15) 11 (nI j_21)) L (va_up A 13 g) Q)) hP hD hK hN [0, 1, 2, 3, 4, 5, 6, 7, 8, 9, 10, 11, 12, 13, 14, 15, 16] rfl (by decide) 0 (ci := 10) rfl rfl _) rfl rfl hl.1 rfl (lv_room (Nat.le_of_ble_eq_true rfl)) dX10_read_163 ⟨Nat.zero_le _, Nat.zero_le _⟩) (fun u_37 H locs hw hP hD hS => ?_)
            obtain ⟨x12_39, hf_40, rfl⟩ := hw
            have hP : va_P (dC, dI) vwCl (rW h cs (va_up (va_up (va_up (va_up I 14 (nI rr)) 15 c15) 11 (nI j_21)) 12 x12_39) L (va_up A 13 g) Q) H := hP
            have hD : va_D A0 (rW h cs (va_up (va_up (va_up (va_up I 14 (nI rr)) 15 c15) 11 (nI j_21)) 12 x12_39) L (va_up A 13 g) Q) := hD
            have hfl := wrg_e (by omega) hf_40
            refine lv_aload_n hx hb dX10_read_166 rfl (lv_at hl 0 rfl) ?_
            refine lv_iconst (v := nI 0) hx hb dX10_read_167 (by decide) ?_
            refine va_put (D := (dC, dI)) (ci := 10) (v := .int (nI 0)) (ty := .int) (C := RX10) (T := TX10) (N := 28) hx hb hts hinX10 tyX10 tyX10_ok nmX10 hown hK hP hD hS 0 rfl rfl 10 (by decide) (hts (.fieldLink RX10 116 "MixedWordsModel" "taped" "I") (by decide +kernel)) (fun _ h9 => h9) rfl (by decide +kernel) rfl rfl (Nat.le_of_ble_eq_true rfl) dX10_read_168 (fun H locs hP hD hS => ?_)
            have hP : va_P (dC, dI) vwCl (rW h cs (va_up (va_up (va_up (va_up (va_up I 14 (nI rr)) 15 c15) 11 (nI j_21)) 12 x12_39) 10 (nI 0)) L (va_up A 13 g) Q) H := hP
            have hD : va_D A0 (rW h cs (va_up (va_up (va_up (va_up (va_up I 14 (nI rr)) 15 c15) 11 (nI j_21)) 12 x12_39) 10 (nI 0)) L (va_up A 13 g) Q) := hD
            refine lv_aload_n hx hb dX10_read_171 rfl (lv_at hl 0 rfl) ?_
            refine va_get (D := (dC, dI)) (ci := 10) (v := .int x12_39) (C := RX10) (T := TX10) (N := 28) hx hb hts hinX10 hown hK hP 0 rfl rfl 12 (by decide) (hts (.fieldLink RX10 122 "MixedWordsModel" "wrong" "I") (by decide +kernel)) (fun _ h9 => h9) rfl dX10_read_172 ?_
            refine lv_if_lt (tgt := 186) hx hb dX10_read_175 (by decide) (fun c_175_40 => ?_) (fun c_175_40 => ?_)
            · skip
              exact absurd c_175_40 hfl
            · skip
              refine lv_bipush (v := (-20)) hx hb dX10_read_178 (by decide) ?_
              refine lv_aload_n hx hb dX10_read_180 rfl (lv_at hl 0 rfl) ?_
              refine va_get (D := (dC, dI)) (ci := 10) (v := .int x12_39) (C := RX10) (T := TX10) (N := 28) hx hb hts hinX10 hown hK hP 0 rfl rfl 12 (by decide) (hts (.fieldLink RX10 122 "MixedWordsModel" "wrong" "I") (by decide +kernel)) (fun _ h9 => h9) rfl dX10_read_181 ?_
              refine lv_isub hx hb dX10_read_184 ?_
              exact xr_i (v := ((-20) - x12_39)) hx hb hr hlocks hK hS dX10_read_185 ((va_up (va_up (va_up (va_up (va_up (va_up (va_up (va_up (va_up I 11 (nI j_21)) 12 x12_39) 14 (nI rr)) 15 c15) 10 (nI 0)) 0 (I 0)) 1 (I 1)) 4 (I 4)) 5 (I 5)), L, (va_up (va_up A 13 g) 3 (A 3)), Q) ⟨(nI j_21), x12_39, (nI rr), c15, (nI 0), (I 0), (I 1), (I 4), (I 5), g, (A 3), ⟨rfl, Or.inr ⟨rfl, rfl, rfl, rfl, rfl⟩⟩, rfl⟩ hP hD
      · skip
        have hm1 := hmr17 (by omega)
        refine lv_aload_n hx hb dX10_read_21 rfl (lv_at hl 0 rfl) ?_
        refine lv_aload_n hx hb dX10_read_22 rfl (lv_at hl 0 rfl) ?_
        refine va_get (D := (dC, dI)) (ci := 10) (v := .int (nI rr)) (C := RX10) (T := TX10) (N := 28) hx hb hts hinX10 hown hK hP 0 rfl rfl 14 (by decide) (hts (.fieldLink RX10 137 "MixedWordsModel" "readRows" "I") (by decide +kernel)) (fun _ h9 => h9) rfl dX10_read_23 ?_
        refine xz_ne (tgt := 33) hx hb dX10_read_26 (by decide) (by omega) (fun c_26_41 => ?_) (fun c_26_41 => ?_)
        · skip
          refine lv_aload_n hx hb dX10_read_33 rfl (lv_at hl 0 rfl) ?_
          refine va_get (D := (dC, dI)) (ci := 10) (v := .int c15) (C := RX10) (T := TX10) (N := 28) hx hb hts hinX10 hown hK hP 0 rfl rfl 15 (by decide) (hts (.fieldLink RX10 143 "MixedWordsModel" "readColumns" "I") (by decide +kernel)) (fun _ h9 => h9) rfl dX10_read_34 ?_
          obtain ⟨hc1, hc2, hc3⟩ := hc17 (by omega)
          refine xt_i (y := nI cc) (hc1) ?_
          refine xj_i (wc := (rW h cs (va_up (va_up (va_up (va_up I 11 (nI a1)) 12 w1) 14 (nI rr)) 15 c15) L (va_up A 13 g) Q)) (wr := ([] : va_W)) hP hD hS hA [0, 1, 2, 3, 4, 5, 6, 7, 8, 9, 10, 11, 12, 13, 14, 15, 16] [] rfl rfl (by decide) (by decide) (va_runV (As := [.int (nI cc)]) (rest := []) ⟨hx, hb, hml, hown, hts⟩ (k_X10_row l dC dI h cs H.size (va_up (va_up (va_up (va_up I 11 (nI a1)) 12 w1) 14 (nI rr)) 15 c15) L (va_up A 13 g) Q cc T a1 rr (by first | assumption | omega) (by first | assumption | omega) hT (by first | assumption | omega | exact hT9) rfl (by first | assumption | omega) rfl (by first | assumption | omega)) (cwV 1 hts gX10_read_X10_row rfl rfl rfl (by decide +kernel) ⟨Nat.le_of_ble_eq_true rfl, Nat.le_of_ble_eq_true rfl⟩) (xpV (wc := (rW h cs (va_up (va_up (va_up (va_up I 11 (nI a1)) 12 w1) 14 (nI rr)) 15 c15) L (va_up A 13 g) Q)) hP hD hK hN [0, 1, 2, 3, 4, 5, 6, 7, 8, 9, 10, 11, 12, 13, 14, 15, 16] rfl (by decide) 0 (ci := 10) rfl rfl _) rfl rfl hl.1 rfl (lv_room (Nat.le_of_ble_eq_true rfl)) dX10_read_37 ⟨Nat.zero_le _, Nat.zero_le _⟩) (fun r_44 u_43 H locs hw hP hD hS => ?_)
          obtain ⟨x11_45, x12_46, f13_47, hf_48, rfl⟩ := hw
          have hP : va_P (dC, dI) vwCl (rW h cs (va_up (va_up (va_up (va_up I 14 (nI rr)) 15 c15) 11 x11_45) 12 x12_46) L (va_up A 13 f13_47) Q) H := hP
          have hD : va_D A0 (rW h cs (va_up (va_up (va_up (va_up I 14 (nI rr)) 15 c15) 11 x11_45) 12 x12_46) L (va_up A 13 f13_47) Q) := hD
          obtain ⟨n_49, a_50, rfl, rfl, hn1, hn2, ha2, hrow9, hkp9⟩ := hf_48
          have hrb9 := rowS_ok hT9 _ _ _ _ _ hrow9
          clear hrow9
          refine lv_istore_n (lv' := [(2, .int (nI n_49)), (0, .ref (h 0)), (1, .int (nI m1))]) hx hb dX10_read_40 rfl hl (by decide) rfl (fun ls hl => ?_)
          refine lv_aload_n hx hb dX10_read_41 rfl (lv_at hl 1 rfl) ?_
          refine lv_aload_n hx hb dX10_read_42 rfl (lv_at hl 1 rfl) ?_
          refine va_get (D := (dC, dI)) (ci := 10) (v := .int (nI rr)) (C := RX10) (T := TX10) (N := 28) hx hb hts hinX10 hown hK hP 0 rfl rfl 14 (by decide) (hts (.fieldLink RX10 137 "MixedWordsModel" "readRows" "I") (by decide +kernel)) (fun _ h9 => h9) rfl dX10_read_43 ?_
          refine xz_ne (tgt := 53) hx hb dX10_read_46 (by decide) (by omega) (fun c_46_50 => ?_) (fun c_46_50 => ?_)
          · skip
            refine lv_aload_n hx hb dX10_read_53 rfl (lv_at hl 1 rfl) ?_
            refine va_get (D := (dC, dI)) (ci := 10) (v := .int c15) (C := RX10) (T := TX10) (N := 28) hx hb hts hinX10 hown hK hP 0 rfl rfl 15 (by decide) (hts (.fieldLink RX10 143 "MixedWordsModel" "readColumns" "I") (by decide +kernel)) (fun _ h9 => h9) rfl dX10_read_54 ?_
            refine xt_i (y := nI cc) (hc1) ?_
            refine va_put (D := (dC, dI)) (ci := 10) (v := .int (nI cc)) (ty := .int) (C := RX10) (T := TX10) (N := 28) hx hb hts hinX10 tyX10 tyX10_ok nmX10 hown hK hP hD hS 0 rfl rfl 15 (by decide) (hts (.fieldLink RX10 143 "MixedWordsModel" "readColumns" "I") (by decide +kernel)) (fun _ h9 => h9) rfl (by decide +kernel) rfl rfl (Nat.le_of_ble_eq_true rfl) dX10_read_57 (fun H locs hP hD hS => ?_)
            have hP : va_P (dC, dI) vwCl (rW h cs (va_up (va_up (va_up (va_up I 14 (nI rr)) 12 x12_46) 11 (nI a_50)) 15 (nI cc)) L (va_up A 13 f13_47) Q) H := hP
            have hD : va_D A0 (rW h cs (va_up (va_up (va_up (va_up I 14 (nI rr)) 12 x12_46) 11 (nI a_50)) 15 (nI cc)) L (va_up A 13 f13_47) Q) := hD
            refine lv_aload_n hx hb dX10_read_60 rfl (lv_at hl 1 rfl) ?_
            refine va_get (D := (dC, dI)) (ci := 10) (v := .int x12_46) (C := RX10) (T := TX10) (N := 28) hx hb hts hinX10 hown hK hP 0 rfl rfl 12 (by decide) (hts (.fieldLink RX10 122 "MixedWordsModel" "wrong" "I") (by decide +kernel)) (fun _ h9 => h9) rfl dX10_read_61 ?_
            refine lv_if_ge (tgt := 83) hx hb dX10_read_64 (by decide) (fun c_64_51 => ?_) (fun c_64_51 => ?_)
            · skip
              refine lv_aload_n hx hb dX10_read_83 rfl (lv_at hl 1 rfl) ?_
              refine lv_dup hx hb dX10_read_84 rfl ?_
              refine va_get (D := (dC, dI)) (ci := 10) (v := .int (nI rr)) (C := RX10) (T := TX10) (N := 28) hx hb hts hinX10 hown hK hP 0 rfl rfl 14 (by decide) (hts (.fieldLink RX10 137 "MixedWordsModel" "readRows" "I") (by decide +kernel)) (fun _ h9 => h9) rfl dX10_read_85 ?_
              refine lv_iconst (v := nI 1) hx hb dX10_read_88 (by decide) ?_
              refine lv_iadd hx hb dX10_read_89 ?_
              refine xt_i (y := nI (rr + 1)) (nI_add _ _) ?_
              refine va_put (D := (dC, dI)) (ci := 10) (v := .int (nI (rr + 1))) (ty := .int) (C := RX10) (T := TX10) (N := 28) hx hb hts hinX10 tyX10 tyX10_ok nmX10 hown hK hP hD hS 0 rfl rfl 14 (by decide) (hts (.fieldLink RX10 137 "MixedWordsModel" "readRows" "I") (by decide +kernel)) (fun _ h9 => h9) rfl (by decide +kernel) rfl rfl (Nat.le_of_ble_eq_true rfl) dX10_read_90 (fun H locs hP hD hS => ?_)
              have hP : va_P (dC, dI) vwCl (rW h cs (va_up (va_up (va_up (va_up I 12 x12_46) 11 (nI a_50)) 15 (nI cc)) 14 (nI (rr + 1))) L (va_up A 13 f13_47) Q) H := hP
              have hD : va_D A0 (rW h cs (va_up (va_up (va_up (va_up I 12 x12_46) 11 (nI a_50)) 15 (nI cc)) 14 (nI (rr + 1))) L (va_up A 13 f13_47) Q) := hD
              refine lv_aload_n hx hb dX10_read_93 rfl (lv_at hl 1 rfl) ?_
              refine va_get (D := (dC, dI)) (ci := 10) (v := .int x12_46) (C := RX10) (T := TX10) (N := 28) hx hb hts hinX10 hown hK hP 0 rfl rfl 12 (by decide) (hts (.fieldLink RX10 122 "MixedWordsModel" "wrong" "I") (by decide +kernel)) (fun _ h9 => h9) rfl dX10_read_94 ?_
              refine lv_if_ge (tgt := 121) hx hb dX10_read_97 (by decide) (fun c_97_52 => ?_) (fun c_97_52 => ?_)
              · skip
                refine lv_iconst (v := nI 0) hx hb dX10_read_121 (by decide) ?_
                refine lv_istore_n (lv' := [(1, .int (nI 0)), (2, .int (nI n_49)), (0, .ref (h 0))]) hx hb dX10_read_122 rfl hl (by decide) rfl (fun ls hl => ?_)
                refine lv_aload_n hx hb dX10_read_123 rfl (lv_at hl 2 rfl) ?_
                refine lv_dup hx hb dX10_read_124 rfl ?_
                refine va_get (D := (dC, dI)) (ci := 10) (v := .int (nI a_50)) (C := RX10) (T := TX10) (N := 28) hx hb hts hinX10 hown hK hP 0 rfl rfl 11 (by decide) (hts (.fieldLink RX10 119 "MixedWordsModel" "at" "I") (by decide +kernel)) (fun _ h9 => h9) rfl dX10_read_125 ?_
                refine lv_iload_n hx hb dX10_read_128 rfl (lv_at hl 0 rfl) ?_
                refine lv_if_eq (tgt := 136) hx hb dX10_read_129 (by decide) (fun _ => ?_) (fun c9 => False.elim (by revert c9; decide +kernel))
                refine lv_iconst (v := nI 0) hx hb dX10_read_136 (by decide) ?_
                refine lv_iadd hx hb dX10_read_137 ?_
                refine xt_i (y := nI (a_50 + 0)) (nI_add _ _) ?_
                refine va_put (D := (dC, dI)) (ci := 10) (v := .int (nI (a_50 + 0))) (ty := .int) (C := RX10) (T := TX10) (N := 28) hx hb hts hinX10 tyX10 tyX10_ok nmX10 hown hK hP hD hS 0 rfl rfl 11 (by decide) (hts (.fieldLink RX10 119 "MixedWordsModel" "at" "I") (by decide +kernel)) (fun _ h9 => h9) rfl (by decide +kernel) rfl rfl (Nat.le_of_ble_eq_true rfl) dX10_read_138 (fun H locs hP hD hS => ?_)
                have hP : va_P (dC, dI) vwCl (rW h cs (va_up (va_up (va_up (va_up I 12 x12_46) 15 (nI cc)) 14 (nI (rr + 1))) 11 (nI (a_50 + 0))) L (va_up A 13 f13_47) Q) H := hP
                have hD : va_D A0 (rW h cs (va_up (va_up (va_up (va_up I 12 x12_46) 15 (nI cc)) 14 (nI (rr + 1))) 11 (nI (a_50 + 0))) L (va_up A 13 f13_47) Q) := hD
                refine lv_goto (tgt := 17) hx hb dX10_read_141 (by decide) ?_
                exact ih_17 0 (rr + 1) cc (nI cc) (a_50 + 0) x12_46 f13_47 (by omega) (by first | assumption | omega) (by first | assumption | omega) (by first | exact (fun _ => ⟨by omega, by decide⟩) | exact (fun h9 => absurd h9 (by omega)) | exact (fun _ => ⟨by omega, by assumption⟩)) (by first | assumption | omega) (by first | exact (fun h9 => absurd h9 (by omega)) | exact (fun _ => ⟨rfl, by omega, by omega⟩)) (by first | exact (fun h9 => absurd h9 (by omega)) | exact (fun _ => by omega)) (by first | exact (fun _ i j hi => absurd hi (by omega)) | exact (fun h9 => absurd h9 hfl) | exact (fun h9 => absurd h9 (Int32.not_lt.mpr (by assumption))) | exact (fun h9 => rd_b hkp9 (fun i j a b => hb17 hm1.2 i j a b) (hrb9 h9) (by omega) (by omega)) | exact (fun h9 => rd_b hkp9 (fun i j a b => absurd a (by omega)) (hrb9 h9) (by omega) (by omega))) _ _ _ hP hD hS (lv_sub hl [2, 0] rfl)
              · skip
                have hwn := Int32.not_le.mp c_97_52
                refine lv_aload_n hx hb dX10_read_100 rfl (lv_at hl 1 rfl) ?_
                refine xj_i (wc := (rW h cs (va_up (va_up (va_up (va_up I 12 x12_46) 11 (nI a_50)) 15 (nI cc)) 14 (nI (rr + 1))) L (va_up A 13 f13_47) Q)) (wr := ([] : va_W)) hP hD hS hA [0, 1, 2, 3, 4, 5, 6, 7, 8, 9, 10, 11, 12, 13, 14, 15, 16] [] rfl rfl (by decide) (by decide) (va_runV (As := []) (rest := []) ⟨hx, hb, hml, hown, hts⟩ (k_X10_next l dC dI h cs H.size (va_up (va_up (va_up (va_up I 12 x12_46) 11 (nI a_50)) 15 (nI cc)) 14 (nI (rr + 1))) L (va_up A 13 f13_47) Q T a_50 hT (by first | assumption | omega | exact hT9) rfl (by first | assumption | omega)) (cwV 0 hts gX10_read_X10_next rfl rfl rfl (by decide +kernel) ⟨Nat.le_of_ble_eq_true rfl, Nat.le_of_ble_eq_true rfl⟩) (xpV (wc := (rW h cs (va_up (va_up (va_up (va_up I 12 x12_46) 11 (nI a_50)) 15 (nI cc)) 14 (nI (rr + 1))) L (va_up A 13 f13_47) Q)) hP hD hK hN [0, 1, 2, 3, 4, 5, 6, 7, 8, 9, 10, 11, 12, 13, 14, 15, 16] rfl (by decide) 0 (ci := 10) rfl rfl _) rfl rfl hl.1 rfl (lv_room (Nat.le_of_ble_eq_true rfl)) dX10_read_101 ⟨Nat.zero_le _, Nat.zero_le _⟩) (fun r_55 u_54 H locs hw hP hD hS => ?_)
                obtain ⟨x11_56, hf_57, rfl⟩ := hw
                have hP : va_P (dC, dI) vwCl (rW h cs (va_up (va_up (va_up (va_up I 12 x12_46) 15 (nI cc)) 14 (nI (rr + 1))) 11 x11_56) L (va_up A 13 f13_47) Q) H := hP
                have hD : va_D A0 (rW h cs (va_up (va_up (va_up (va_up I 12 x12_46) 15 (nI cc)) 14 (nI (rr + 1))) 11 x11_56) L (va_up A 13 f13_47) Q) := hD
                obtain ⟨j_58, hsk9, rfl, rfl⟩ := hf_57
                have hskT := hsk9.2.1
                refine lv_bipush (v := nI 59) hx hb dX10_read_104 (by decide) ?_
                refine lv_icmp_ne (tgt := 121) hx hb dX10_read_106 (by decide) (fun c_106_58 => ?_) (fun c_106_58 => ?_)
                · skip
                  refine lv_iconst (v := nI 0) hx hb dX10_read_121 (by decide) ?_
                  refine lv_istore_n (lv' := [(1, .int (nI 0)), (2, .int (nI n_49)), (0, .ref (h 0))]) hx hb dX10_read_122 rfl hl (by decide) rfl (fun ls hl => ?_)
                  refine lv_aload_n hx hb dX10_read_123 rfl (lv_at hl 2 rfl) ?_
                  refine lv_dup hx hb dX10_read_124 rfl ?_
                  refine va_get (D := (dC, dI)) (ci := 10) (v := .int (nI j_58)) (C := RX10) (T := TX10) (N := 28) hx hb hts hinX10 hown hK hP 0 rfl rfl 11 (by decide) (hts (.fieldLink RX10 119 "MixedWordsModel" "at" "I") (by decide +kernel)) (fun _ h9 => h9) rfl dX10_read_125 ?_
                  refine lv_iload_n hx hb dX10_read_128 rfl (lv_at hl 0 rfl) ?_
                  refine lv_if_eq (tgt := 136) hx hb dX10_read_129 (by decide) (fun _ => ?_) (fun c9 => False.elim (by revert c9; decide +kernel))
                  refine lv_iconst (v := nI 0) hx hb dX10_read_136 (by decide) ?_
                  refine lv_iadd hx hb dX10_read_137 ?_
                  refine xt_i (y := nI (j_58 + 0)) (nI_add _ _) ?_
                  refine va_put (D := (dC, dI)) (ci := 10) (v := .int (nI (j_58 + 0))) (ty := .int) (C := RX10) (T := TX10) (N := 28) hx hb hts hinX10 tyX10 tyX10_ok nmX10 hown hK hP hD hS 0 rfl rfl 11 (by decide) (hts (.fieldLink RX10 119 "MixedWordsModel" "at" "I") (by decide +kernel)) (fun _ h9 => h9) rfl (by decide +kernel) rfl rfl (Nat.le_of_ble_eq_true rfl) dX10_read_138 (fun H locs hP hD hS => ?_)
                  have hP : va_P (dC, dI) vwCl (rW h cs (va_up (va_up (va_up (va_up I 12 x12_46) 15 (nI cc)) 14 (nI (rr + 1))) 11 (nI (j_58 + 0))) L (va_up A 13 f13_47) Q) H := hP
                  have hD : va_D A0 (rW h cs (va_up (va_up (va_up (va_up I 12 x12_46) 15 (nI cc)) 14 (nI (rr + 1))) 11 (nI (j_58 + 0))) L (va_up A 13 f13_47) Q) := hD
                  refine lv_goto (tgt := 17) hx hb dX10_read_141 (by decide) ?_
                  exact ih_17 0 (rr + 1) cc (nI cc) (j_58 + 0) x12_46 f13_47 (by omega) (by first | assumption | omega) (by first | assumption | omega) (by first | exact (fun _ => ⟨by omega, by decide⟩) | exact (fun h9 => absurd h9 (by omega)) | exact (fun _ => ⟨by omega, by assumption⟩)) (by first | assumption | omega) (by first | exact (fun h9 => absurd h9 (by omega)) | exact (fun _ => ⟨rfl, by omega, by omega⟩)) (by first | exact (fun h9 => absurd h9 (by omega)) | exact (fun _ => by omega)) (by first | exact (fun _ i j hi => absurd hi (by omega)) | exact (fun h9 => absurd h9 hfl) | exact (fun h9 => absurd h9 (Int32.not_lt.mpr (by assumption))) | exact (fun h9 => rd_b hkp9 (fun i j a b => hb17 hm1.2 i j a b) (hrb9 h9) (by omega) (by omega)) | exact (fun h9 => rd_b hkp9 (fun i j a b => absurd a (by omega)) (hrb9 h9) (by omega) (by omega))) _ _ _ hP hD hS (lv_sub hl [2, 0] rfl)
                · skip
                  have hcT := tp_ltc (by decide) (by decide) c_106_58
                  refine lv_aload_n hx hb dX10_read_109 rfl (lv_at hl 1 rfl) ?_
                  refine va_get (D := (dC, dI)) (ci := 10) (v := .int (nI (rr + 1))) (C := RX10) (T := TX10) (N := 28) hx hb hts hinX10 hown hK hP 0 rfl rfl 14 (by decide) (hts (.fieldLink RX10 137 "MixedWordsModel" "readRows" "I") (by decide +kernel)) (fun _ h9 => h9) rfl dX10_read_110 ?_
                  refine lv_iconst (v := nI 5) hx hb dX10_read_113 (by decide) ?_
                  refine xn_ge (tgt := 121) hx hb dX10_read_114 (by decide) (by omega) (by omega) (fun c_114_59 => ?_) (fun c_114_59 => ?_)
                  · skip
                    refine lv_iconst (v := nI 0) hx hb dX10_read_121 (by decide) ?_
                    refine lv_istore_n (lv' := [(1, .int (nI 0)), (2, .int (nI n_49)), (0, .ref (h 0))]) hx hb dX10_read_122 rfl hl (by decide) rfl (fun ls hl => ?_)
                    refine lv_aload_n hx hb dX10_read_123 rfl (lv_at hl 2 rfl) ?_
                    refine lv_dup hx hb dX10_read_124 rfl ?_
                    refine va_get (D := (dC, dI)) (ci := 10) (v := .int (nI j_58)) (C := RX10) (T := TX10) (N := 28) hx hb hts hinX10 hown hK hP 0 rfl rfl 11 (by decide) (hts (.fieldLink RX10 119 "MixedWordsModel" "at" "I") (by decide +kernel)) (fun _ h9 => h9) rfl dX10_read_125 ?_
                    refine lv_iload_n hx hb dX10_read_128 rfl (lv_at hl 0 rfl) ?_
                    refine lv_if_eq (tgt := 136) hx hb dX10_read_129 (by decide) (fun _ => ?_) (fun c9 => False.elim (by revert c9; decide +kernel))
                    refine lv_iconst (v := nI 0) hx hb dX10_read_136 (by decide) ?_
                    refine lv_iadd hx hb dX10_read_137 ?_
                    refine xt_i (y := nI (j_58 + 0)) (nI_add _ _) ?_
                    refine va_put (D := (dC, dI)) (ci := 10) (v := .int (nI (j_58 + 0))) (ty := .int) (C := RX10) (T := TX10) (N := 28) hx hb hts hinX10 tyX10 tyX10_ok nmX10 hown hK hP hD hS 0 rfl rfl 11 (by decide) (hts (.fieldLink RX10 119 "MixedWordsModel" "at" "I") (by decide +kernel)) (fun _ h9 => h9) rfl (by decide +kernel) rfl rfl (Nat.le_of_ble_eq_true rfl) dX10_read_138 (fun H locs hP hD hS => ?_)
                    have hP : va_P (dC, dI) vwCl (rW h cs (va_up (va_up (va_up (va_up I 12 x12_46) 15 (nI cc)) 14 (nI (rr + 1))) 11 (nI (j_58 + 0))) L (va_up A 13 f13_47) Q) H := hP
                    have hD : va_D A0 (rW h cs (va_up (va_up (va_up (va_up I 12 x12_46) 15 (nI cc)) 14 (nI (rr + 1))) 11 (nI (j_58 + 0))) L (va_up A 13 f13_47) Q) := hD
                    refine lv_goto (tgt := 17) hx hb dX10_read_141 (by decide) ?_
                    exact ih_17 0 (rr + 1) cc (nI cc) (j_58 + 0) x12_46 f13_47 (by omega) (by first | assumption | omega) (by first | assumption | omega) (by first | exact (fun _ => ⟨by omega, by decide⟩) | exact (fun h9 => absurd h9 (by omega)) | exact (fun _ => ⟨by omega, by assumption⟩)) (by first | assumption | omega) (by first | exact (fun h9 => absurd h9 (by omega)) | exact (fun _ => ⟨rfl, by omega, by omega⟩)) (by first | exact (fun h9 => absurd h9 (by omega)) | exact (fun _ => by omega)) (by first | exact (fun _ i j hi => absurd hi (by omega)) | exact (fun h9 => absurd h9 hfl) | exact (fun h9 => absurd h9 (Int32.not_lt.mpr (by assumption))) | exact (fun h9 => rd_b hkp9 (fun i j a b => hb17 hm1.2 i j a b) (hrb9 h9) (by omega) (by omega)) | exact (fun h9 => rd_b hkp9 (fun i j a b => absurd a (by omega)) (hrb9 h9) (by omega) (by omega))) _ _ _ hP hD hS (lv_sub hl [2, 0] rfl)
                  · skip
                    refine lv_iconst (v := nI 1) hx hb dX10_read_117 (by decide) ?_
                    refine lv_goto (tgt := 122) hx hb dX10_read_118 (by decide) ?_
                    refine lv_istore_n (lv' := [(1, .int (nI 1)), (2, .int (nI n_49)), (0, .ref (h 0))]) hx hb dX10_read_122 rfl hl (by decide) rfl (fun ls hl => ?_)
                    refine lv_aload_n hx hb dX10_read_123 rfl (lv_at hl 2 rfl) ?_
                    refine lv_dup hx hb dX10_read_124 rfl ?_
                    refine va_get (D := (dC, dI)) (ci := 10) (v := .int (nI j_58)) (C := RX10) (T := TX10) (N := 28) hx hb hts hinX10 hown hK hP 0 rfl rfl 11 (by decide) (hts (.fieldLink RX10 119 "MixedWordsModel" "at" "I") (by decide +kernel)) (fun _ h9 => h9) rfl dX10_read_125 ?_
                    refine lv_iload_n hx hb dX10_read_128 rfl (lv_at hl 0 rfl) ?_
                    refine lv_if_eq (tgt := 136) hx hb dX10_read_129 (by decide) (fun c9 => False.elim (by revert c9; decide +kernel)) (fun _ => ?_)
                    refine lv_iconst (v := nI 1) hx hb dX10_read_132 (by decide) ?_
                    refine lv_goto (tgt := 137) hx hb dX10_read_133 (by decide) ?_
                    refine lv_iadd hx hb dX10_read_137 ?_
                    refine xt_i (y := nI (j_58 + 1)) (nI_add _ _) ?_
                    refine va_put (D := (dC, dI)) (ci := 10) (v := .int (nI (j_58 + 1))) (ty := .int) (C := RX10) (T := TX10) (N := 28) hx hb hts hinX10 tyX10 tyX10_ok nmX10 hown hK hP hD hS 0 rfl rfl 11 (by decide) (hts (.fieldLink RX10 119 "MixedWordsModel" "at" "I") (by decide +kernel)) (fun _ h9 => h9) rfl (by decide +kernel) rfl rfl (Nat.le_of_ble_eq_true rfl) dX10_read_138 (fun H locs hP hD hS => ?_)
                    have hP : va_P (dC, dI) vwCl (rW h cs (va_up (va_up (va_up (va_up I 12 x12_46) 15 (nI cc)) 14 (nI (rr + 1))) 11 (nI (j_58 + 1))) L (va_up A 13 f13_47) Q) H := hP
                    have hD : va_D A0 (rW h cs (va_up (va_up (va_up (va_up I 12 x12_46) 15 (nI cc)) 14 (nI (rr + 1))) 11 (nI (j_58 + 1))) L (va_up A 13 f13_47) Q) := hD
                    refine lv_goto (tgt := 17) hx hb dX10_read_141 (by decide) ?_
                    exact ih_17 1 (rr + 1) cc (nI cc) (j_58 + 1) x12_46 f13_47 (by omega) (by first | assumption | omega) (by first | assumption | omega) (by first | exact (fun _ => ⟨by omega, by decide⟩) | exact (fun h9 => absurd h9 (by omega)) | exact (fun _ => ⟨by omega, by assumption⟩)) (by first | assumption | omega) (by first | exact (fun h9 => absurd h9 (by omega)) | exact (fun _ => ⟨rfl, by omega, by omega⟩)) (by first | exact (fun h9 => absurd h9 (by omega)) | exact (fun _ => by omega)) (by first | exact (fun _ i j hi => absurd hi (by omega)) | exact (fun h9 => absurd h9 hfl) | exact (fun h9 => absurd h9 (Int32.not_lt.mpr (by assumption))) | exact (fun h9 => rd_b hkp9 (fun i j a b => hb17 hm1.2 i j a b) (hrb9 h9) (by omega) (by omega)) | exact (fun h9 => rd_b hkp9 (fun i j a b => absurd a (by omega)) (hrb9 h9) (by omega) (by omega))) _ _ _ hP hD hS (lv_sub hl [2, 0] rfl)
            · skip
              refine lv_iload_n hx hb dX10_read_67 rfl (lv_at hl 0 rfl) ?_
              refine lv_aload_n hx hb dX10_read_68 rfl (lv_at hl 1 rfl) ?_
              refine va_get (D := (dC, dI)) (ci := 10) (v := .int (nI cc)) (C := RX10) (T := TX10) (N := 28) hx hb hts hinX10 hown hK hP 0 rfl rfl 15 (by decide) (hts (.fieldLink RX10 143 "MixedWordsModel" "readColumns" "I") (by decide +kernel)) (fun _ h9 => h9) rfl dX10_read_69 ?_
              refine xn_ge (tgt := 83) hx hb dX10_read_72 (by decide) (by omega) (by omega) (fun c_72_60 => ?_) (fun c_72_60 => ?_)
              · skip
                refine lv_aload_n hx hb dX10_read_83 rfl (lv_at hl 1 rfl) ?_
                refine lv_dup hx hb dX10_read_84 rfl ?_
                refine va_get (D := (dC, dI)) (ci := 10) (v := .int (nI rr)) (C := RX10) (T := TX10) (N := 28) hx hb hts hinX10 hown hK hP 0 rfl rfl 14 (by decide) (hts (.fieldLink RX10 137 "MixedWordsModel" "readRows" "I") (by decide +kernel)) (fun _ h9 => h9) rfl dX10_read_85 ?_
                refine lv_iconst (v := nI 1) hx hb dX10_read_88 (by decide) ?_
                refine lv_iadd hx hb dX10_read_89 ?_
                refine xt_i (y := nI (rr + 1)) (nI_add _ _) ?_
                refine va_put (D := (dC, dI)) (ci := 10) (v := .int (nI (rr + 1))) (ty := .int) (C := RX10) (T := TX10) (N := 28) hx hb hts hinX10 tyX10 tyX10_ok nmX10 hown hK hP hD hS 0 rfl rfl 14 (by decide) (hts (.fieldLink RX10 137 "MixedWordsModel" "readRows" "I") (by decide +kernel)) (fun _ h9 => h9) rfl (by decide +kernel) rfl rfl (Nat.le_of_ble_eq_true rfl) dX10_read_90 (fun H locs hP hD hS => ?_)
                have hP : va_P (dC, dI) vwCl (rW h cs (va_up (va_up (va_up (va_up I 12 x12_46) 11 (nI a_50)) 15 (nI cc)) 14 (nI (rr + 1))) L (va_up A 13 f13_47) Q) H := hP
                have hD : va_D A0 (rW h cs (va_up (va_up (va_up (va_up I 12 x12_46) 11 (nI a_50)) 15 (nI cc)) 14 (nI (rr + 1))) L (va_up A 13 f13_47) Q) := hD
                refine lv_aload_n hx hb dX10_read_93 rfl (lv_at hl 1 rfl) ?_
                refine va_get (D := (dC, dI)) (ci := 10) (v := .int x12_46) (C := RX10) (T := TX10) (N := 28) hx hb hts hinX10 hown hK hP 0 rfl rfl 12 (by decide) (hts (.fieldLink RX10 122 "MixedWordsModel" "wrong" "I") (by decide +kernel)) (fun _ h9 => h9) rfl dX10_read_94 ?_
                refine lv_if_ge (tgt := 121) hx hb dX10_read_97 (by decide) (fun c_97_61 => ?_) (fun c_97_61 => ?_)
                · skip
                  refine lv_iconst (v := nI 0) hx hb dX10_read_121 (by decide) ?_
                  refine lv_istore_n (lv' := [(1, .int (nI 0)), (2, .int (nI n_49)), (0, .ref (h 0))]) hx hb dX10_read_122 rfl hl (by decide) rfl (fun ls hl => ?_)
                  refine lv_aload_n hx hb dX10_read_123 rfl (lv_at hl 2 rfl) ?_
                  refine lv_dup hx hb dX10_read_124 rfl ?_
                  refine va_get (D := (dC, dI)) (ci := 10) (v := .int (nI a_50)) (C := RX10) (T := TX10) (N := 28) hx hb hts hinX10 hown hK hP 0 rfl rfl 11 (by decide) (hts (.fieldLink RX10 119 "MixedWordsModel" "at" "I") (by decide +kernel)) (fun _ h9 => h9) rfl dX10_read_125 ?_
                  refine lv_iload_n hx hb dX10_read_128 rfl (lv_at hl 0 rfl) ?_
                  refine lv_if_eq (tgt := 136) hx hb dX10_read_129 (by decide) (fun _ => ?_) (fun c9 => False.elim (by revert c9; decide +kernel))
                  refine lv_iconst (v := nI 0) hx hb dX10_read_136 (by decide) ?_
                  refine lv_iadd hx hb dX10_read_137 ?_
                  refine xt_i (y := nI (a_50 + 0)) (nI_add _ _) ?_
                  refine va_put (D := (dC, dI)) (ci := 10) (v := .int (nI (a_50 + 0))) (ty := .int) (C := RX10) (T := TX10) (N := 28) hx hb hts hinX10 tyX10 tyX10_ok nmX10 hown hK hP hD hS 0 rfl rfl 11 (by decide) (hts (.fieldLink RX10 119 "MixedWordsModel" "at" "I") (by decide +kernel)) (fun _ h9 => h9) rfl (by decide +kernel) rfl rfl (Nat.le_of_ble_eq_true rfl) dX10_read_138 (fun H locs hP hD hS => ?_)
                  have hP : va_P (dC, dI) vwCl (rW h cs (va_up (va_up (va_up (va_up I 12 x12_46) 15 (nI cc)) 14 (nI (rr + 1))) 11 (nI (a_50 + 0))) L (va_up A 13 f13_47) Q) H := hP
                  have hD : va_D A0 (rW h cs (va_up (va_up (va_up (va_up I 12 x12_46) 15 (nI cc)) 14 (nI (rr + 1))) 11 (nI (a_50 + 0))) L (va_up A 13 f13_47) Q) := hD
                  refine lv_goto (tgt := 17) hx hb dX10_read_141 (by decide) ?_
                  exact ih_17 0 (rr + 1) cc (nI cc) (a_50 + 0) x12_46 f13_47 (by omega) (by first | assumption | omega) (by first | assumption | omega) (by first | exact (fun _ => ⟨by omega, by decide⟩) | exact (fun h9 => absurd h9 (by omega)) | exact (fun _ => ⟨by omega, by assumption⟩)) (by first | assumption | omega) (by first | exact (fun h9 => absurd h9 (by omega)) | exact (fun _ => ⟨rfl, by omega, by omega⟩)) (by first | exact (fun h9 => absurd h9 (by omega)) | exact (fun _ => by omega)) (by first | exact (fun _ i j hi => absurd hi (by omega)) | exact (fun h9 => absurd h9 hfl) | exact (fun h9 => absurd h9 (Int32.not_lt.mpr (by assumption))) | exact (fun h9 => rd_b hkp9 (fun i j a b => hb17 hm1.2 i j a b) (hrb9 h9) (by omega) (by omega)) | exact (fun h9 => rd_b hkp9 (fun i j a b => absurd a (by omega)) (hrb9 h9) (by omega) (by omega))) _ _ _ hP hD hS (lv_sub hl [2, 0] rfl)
                · skip
                  have hwn := Int32.not_le.mp c_97_61
                  refine lv_aload_n hx hb dX10_read_100 rfl (lv_at hl 1 rfl) ?_
                  refine xj_i (wc := (rW h cs (va_up (va_up (va_up (va_up I 12 x12_46) 11 (nI a_50)) 15 (nI cc)) 14 (nI (rr + 1))) L (va_up A 13 f13_47) Q)) (wr := ([] : va_W)) hP hD hS hA [0, 1, 2, 3, 4, 5, 6, 7, 8, 9, 10, 11, 12, 13, 14, 15, 16] [] rfl rfl (by decide) (by decide) (va_runV (As := []) (rest := []) ⟨hx, hb, hml, hown, hts⟩ (k_X10_next l dC dI h cs H.size (va_up (va_up (va_up (va_up I 12 x12_46) 11 (nI a_50)) 15 (nI cc)) 14 (nI (rr + 1))) L (va_up A 13 f13_47) Q T a_50 hT (by first | assumption | omega | exact hT9) rfl (by first | assumption | omega)) (cwV 0 hts gX10_read_X10_next rfl rfl rfl (by decide +kernel) ⟨Nat.le_of_ble_eq_true rfl, Nat.le_of_ble_eq_true rfl⟩) (xpV (wc := (rW h cs (va_up (va_up (va_up (va_up I 12 x12_46) 11 (nI a_50)) 15 (nI cc)) 14 (nI (rr + 1))) L (va_up A 13 f13_47) Q)) hP hD hK hN [0, 1, 2, 3, 4, 5, 6, 7, 8, 9, 10, 11, 12, 13, 14, 15, 16] rfl (by decide) 0 (ci := 10) rfl rfl _) rfl rfl hl.1 rfl (lv_room (Nat.le_of_ble_eq_true rfl)) dX10_read_101 ⟨Nat.zero_le _, Nat.zero_le _⟩) (fun r_64 u_63 H locs hw hP hD hS => ?_)
                  obtain ⟨x11_65, hf_66, rfl⟩ := hw
                  have hP : va_P (dC, dI) vwCl (rW h cs (va_up (va_up (va_up (va_up I 12 x12_46) 15 (nI cc)) 14 (nI (rr + 1))) 11 x11_65) L (va_up A 13 f13_47) Q) H := hP
                  have hD : va_D A0 (rW h cs (va_up (va_up (va_up (va_up I 12 x12_46) 15 (nI cc)) 14 (nI (rr + 1))) 11 x11_65) L (va_up A 13 f13_47) Q) := hD
                  obtain ⟨j_67, hsk9, rfl, rfl⟩ := hf_66
                  have hskT := hsk9.2.1
                  refine lv_bipush (v := nI 59) hx hb dX10_read_104 (by decide) ?_
                  refine lv_icmp_ne (tgt := 121) hx hb dX10_read_106 (by decide) (fun c_106_67 => ?_) (fun c_106_67 => ?_)
                  · skip
                    refine lv_iconst (v := nI 0) hx hb dX10_read_121 (by decide) ?_
                    refine lv_istore_n (lv' := [(1, .int (nI 0)), (2, .int (nI n_49)), (0, .ref (h 0))]) hx hb dX10_read_122 rfl hl (by decide) rfl (fun ls hl => ?_)
                    refine lv_aload_n hx hb dX10_read_123 rfl (lv_at hl 2 rfl) ?_
                    refine lv_dup hx hb dX10_read_124 rfl ?_
                    refine va_get (D := (dC, dI)) (ci := 10) (v := .int (nI j_67)) (C := RX10) (T := TX10) (N := 28) hx hb hts hinX10 hown hK hP 0 rfl rfl 11 (by decide) (hts (.fieldLink RX10 119 "MixedWordsModel" "at" "I") (by decide +kernel)) (fun _ h9 => h9) rfl dX10_read_125 ?_
                    refine lv_iload_n hx hb dX10_read_128 rfl (lv_at hl 0 rfl) ?_
                    refine lv_if_eq (tgt := 136) hx hb dX10_read_129 (by decide) (fun _ => ?_) (fun c9 => False.elim (by revert c9; decide +kernel))
                    refine lv_iconst (v := nI 0) hx hb dX10_read_136 (by decide) ?_
                    refine lv_iadd hx hb dX10_read_137 ?_
                    refine xt_i (y := nI (j_67 + 0)) (nI_add _ _) ?_
                    refine va_put (D := (dC, dI)) (ci := 10) (v := .int (nI (j_67 + 0))) (ty := .int) (C := RX10) (T := TX10) (N := 28) hx hb hts hinX10 tyX10 tyX10_ok nmX10 hown hK hP hD hS 0 rfl rfl 11 (by decide) (hts (.fieldLink RX10 119 "MixedWordsModel" "at" "I") (by decide +kernel)) (fun _ h9 => h9) rfl (by decide +kernel) rfl rfl (Nat.le_of_ble_eq_true rfl) dX10_read_138 (fun H locs hP hD hS => ?_)
                    have hP : va_P (dC, dI) vwCl (rW h cs (va_up (va_up (va_up (va_up I 12 x12_46) 15 (nI cc)) 14 (nI (rr + 1))) 11 (nI (j_67 + 0))) L (va_up A 13 f13_47) Q) H := hP
                    have hD : va_D A0 (rW h cs (va_up (va_up (va_up (va_up I 12 x12_46) 15 (nI cc)) 14 (nI (rr + 1))) 11 (nI (j_67 + 0))) L (va_up A 13 f13_47) Q) := hD
                    refine lv_goto (tgt := 17) hx hb dX10_read_141 (by decide) ?_
                    exact ih_17 0 (rr + 1) cc (nI cc) (j_67 + 0) x12_46 f13_47 (by omega) (by first | assumption | omega) (by first | assumption | omega) (by first | exact (fun _ => ⟨by omega, by decide⟩) | exact (fun h9 => absurd h9 (by omega)) | exact (fun _ => ⟨by omega, by assumption⟩)) (by first | assumption | omega) (by first | exact (fun h9 => absurd h9 (by omega)) | exact (fun _ => ⟨rfl, by omega, by omega⟩)) (by first | exact (fun h9 => absurd h9 (by omega)) | exact (fun _ => by omega)) (by first | exact (fun _ i j hi => absurd hi (by omega)) | exact (fun h9 => absurd h9 hfl) | exact (fun h9 => absurd h9 (Int32.not_lt.mpr (by assumption))) | exact (fun h9 => rd_b hkp9 (fun i j a b => hb17 hm1.2 i j a b) (hrb9 h9) (by omega) (by omega)) | exact (fun h9 => rd_b hkp9 (fun i j a b => absurd a (by omega)) (hrb9 h9) (by omega) (by omega))) _ _ _ hP hD hS (lv_sub hl [2, 0] rfl)
                  · skip
                    have hcT := tp_ltc (by decide) (by decide) c_106_67
                    refine lv_aload_n hx hb dX10_read_109 rfl (lv_at hl 1 rfl) ?_
                    refine va_get (D := (dC, dI)) (ci := 10) (v := .int (nI (rr + 1))) (C := RX10) (T := TX10) (N := 28) hx hb hts hinX10 hown hK hP 0 rfl rfl 14 (by decide) (hts (.fieldLink RX10 137 "MixedWordsModel" "readRows" "I") (by decide +kernel)) (fun _ h9 => h9) rfl dX10_read_110 ?_
                    refine lv_iconst (v := nI 5) hx hb dX10_read_113 (by decide) ?_
                    refine xn_ge (tgt := 121) hx hb dX10_read_114 (by decide) (by omega) (by omega) (fun c_114_68 => ?_) (fun c_114_68 => ?_)
                    · skip
                      refine lv_iconst (v := nI 0) hx hb dX10_read_121 (by decide) ?_
                      refine lv_istore_n (lv' := [(1, .int (nI 0)), (2, .int (nI n_49)), (0, .ref (h 0))]) hx hb dX10_read_122 rfl hl (by decide) rfl (fun ls hl => ?_)
                      refine lv_aload_n hx hb dX10_read_123 rfl (lv_at hl 2 rfl) ?_
                      refine lv_dup hx hb dX10_read_124 rfl ?_
                      refine va_get (D := (dC, dI)) (ci := 10) (v := .int (nI j_67)) (C := RX10) (T := TX10) (N := 28) hx hb hts hinX10 hown hK hP 0 rfl rfl 11 (by decide) (hts (.fieldLink RX10 119 "MixedWordsModel" "at" "I") (by decide +kernel)) (fun _ h9 => h9) rfl dX10_read_125 ?_
                      refine lv_iload_n hx hb dX10_read_128 rfl (lv_at hl 0 rfl) ?_
                      refine lv_if_eq (tgt := 136) hx hb dX10_read_129 (by decide) (fun _ => ?_) (fun c9 => False.elim (by revert c9; decide +kernel))
                      refine lv_iconst (v := nI 0) hx hb dX10_read_136 (by decide) ?_
                      refine lv_iadd hx hb dX10_read_137 ?_
                      refine xt_i (y := nI (j_67 + 0)) (nI_add _ _) ?_
                      refine va_put (D := (dC, dI)) (ci := 10) (v := .int (nI (j_67 + 0))) (ty := .int) (C := RX10) (T := TX10) (N := 28) hx hb hts hinX10 tyX10 tyX10_ok nmX10 hown hK hP hD hS 0 rfl rfl 11 (by decide) (hts (.fieldLink RX10 119 "MixedWordsModel" "at" "I") (by decide +kernel)) (fun _ h9 => h9) rfl (by decide +kernel) rfl rfl (Nat.le_of_ble_eq_true rfl) dX10_read_138 (fun H locs hP hD hS => ?_)
                      have hP : va_P (dC, dI) vwCl (rW h cs (va_up (va_up (va_up (va_up I 12 x12_46) 15 (nI cc)) 14 (nI (rr + 1))) 11 (nI (j_67 + 0))) L (va_up A 13 f13_47) Q) H := hP
                      have hD : va_D A0 (rW h cs (va_up (va_up (va_up (va_up I 12 x12_46) 15 (nI cc)) 14 (nI (rr + 1))) 11 (nI (j_67 + 0))) L (va_up A 13 f13_47) Q) := hD
                      refine lv_goto (tgt := 17) hx hb dX10_read_141 (by decide) ?_
                      exact ih_17 0 (rr + 1) cc (nI cc) (j_67 + 0) x12_46 f13_47 (by omega) (by first | assumption | omega) (by first | assumption | omega) (by first | exact (fun _ => ⟨by omega, by decide⟩) | exact (fun h9 => absurd h9 (by omega)) | exact (fun _ => ⟨by omega, by assumption⟩)) (by first | assumption | omega) (by first | exact (fun h9 => absurd h9 (by omega)) | exact (fun _ => ⟨rfl, by omega, by omega⟩)) (by first | exact (fun h9 => absurd h9 (by omega)) | exact (fun _ => by omega)) (by first | exact (fun _ i j hi => absurd hi (by omega)) | exact (fun h9 => absurd h9 hfl) | exact (fun h9 => absurd h9 (Int32.not_lt.mpr (by assumption))) | exact (fun h9 => rd_b hkp9 (fun i j a b => hb17 hm1.2 i j a b) (hrb9 h9) (by omega) (by omega)) | exact (fun h9 => rd_b hkp9 (fun i j a b => absurd a (by omega)) (hrb9 h9) (by omega) (by omega))) _ _ _ hP hD hS (lv_sub hl [2, 0] rfl)
                    · skip
                      refine lv_iconst (v := nI 1) hx hb dX10_read_117 (by decide) ?_
                      refine lv_goto (tgt := 122) hx hb dX10_read_118 (by decide) ?_
                      refine lv_istore_n (lv' := [(1, .int (nI 1)), (2, .int (nI n_49)), (0, .ref (h 0))]) hx hb dX10_read_122 rfl hl (by decide) rfl (fun ls hl => ?_)
                      refine lv_aload_n hx hb dX10_read_123 rfl (lv_at hl 2 rfl) ?_
                      refine lv_dup hx hb dX10_read_124 rfl ?_
                      refine va_get (D := (dC, dI)) (ci := 10) (v := .int (nI j_67)) (C := RX10) (T := TX10) (N := 28) hx hb hts hinX10 hown hK hP 0 rfl rfl 11 (by decide) (hts (.fieldLink RX10 119 "MixedWordsModel" "at" "I") (by decide +kernel)) (fun _ h9 => h9) rfl dX10_read_125 ?_
                      refine lv_iload_n hx hb dX10_read_128 rfl (lv_at hl 0 rfl) ?_
                      refine lv_if_eq (tgt := 136) hx hb dX10_read_129 (by decide) (fun c9 => False.elim (by revert c9; decide +kernel)) (fun _ => ?_)
                      refine lv_iconst (v := nI 1) hx hb dX10_read_132 (by decide) ?_
                      refine lv_goto (tgt := 137) hx hb dX10_read_133 (by decide) ?_
                      refine lv_iadd hx hb dX10_read_137 ?_
                      refine xt_i (y := nI (j_67 + 1)) (nI_add _ _) ?_
                      refine va_put (D := (dC, dI)) (ci := 10) (v := .int (nI (j_67 + 1))) (ty := .int) (C := RX10) (T := TX10) (N := 28) hx hb hts hinX10 tyX10 tyX10_ok nmX10 hown hK hP hD hS 0 rfl rfl 11 (by decide) (hts (.fieldLink RX10 119 "MixedWordsModel" "at" "I") (by decide +kernel)) (fun _ h9 => h9) rfl (by decide +kernel) rfl rfl (Nat.le_of_ble_eq_true rfl) dX10_read_138 (fun H locs hP hD hS => ?_)
                      have hP : va_P (dC, dI) vwCl (rW h cs (va_up (va_up (va_up (va_up I 12 x12_46) 15 (nI cc)) 14 (nI (rr + 1))) 11 (nI (j_67 + 1))) L (va_up A 13 f13_47) Q) H := hP
                      have hD : va_D A0 (rW h cs (va_up (va_up (va_up (va_up I 12 x12_46) 15 (nI cc)) 14 (nI (rr + 1))) 11 (nI (j_67 + 1))) L (va_up A 13 f13_47) Q) := hD
                      refine lv_goto (tgt := 17) hx hb dX10_read_141 (by decide) ?_
                      exact ih_17 1 (rr + 1) cc (nI cc) (j_67 + 1) x12_46 f13_47 (by omega) (by first | assumption | omega) (by first | assumption | omega) (by first | exact (fun _ => ⟨by omega, by decide⟩) | exact (fun h9 => absurd h9 (by omega)) | exact (fun _ => ⟨by omega, by assumption⟩)) (by first | assumption | omega) (by first | exact (fun h9 => absurd h9 (by omega)) | exact (fun _ => ⟨rfl, by omega, by omega⟩)) (by first | exact (fun h9 => absurd h9 (by omega)) | exact (fun _ => by omega)) (by first | exact (fun _ i j hi => absurd hi (by omega)) | exact (fun h9 => absurd h9 hfl) | exact (fun h9 => absurd h9 (Int32.not_lt.mpr (by assumption))) | exact (fun h9 => rd_b hkp9 (fun i j a b => hb17 hm1.2 i j a b) (hrb9 h9) (by omega) (by omega)) | exact (fun h9 => rd_b hkp9 (fun i j a b => absurd a (by omega)) (hrb9 h9) (by omega) (by omega))) _ _ _ hP hD hS (lv_sub hl [2, 0] rfl)
              · skip
                refine lv_aload_n hx hb dX10_read_75 rfl (lv_at hl 1 rfl) ?_
                refine lv_aload_n hx hb dX10_read_76 rfl (lv_at hl 1 rfl) ?_
                refine va_get (D := (dC, dI)) (ci := 10) (v := .int (nI a_50)) (C := RX10) (T := TX10) (N := 28) hx hb hts hinX10 hown hK hP 0 rfl rfl 11 (by decide) (hts (.fieldLink RX10 119 "MixedWordsModel" "at" "I") (by decide +kernel)) (fun _ h9 => h9) rfl dX10_read_77 ?_
                refine xj_v (wc := (rW h cs (va_up (va_up (va_up (va_up I 14 (nI rr)) 12 x12_46) 11 (nI a_50)) 15 (nI cc)) L (va_up A 13 f13_47) Q)) (wr := ([] : va_W)) hP hD hS hA [0, 1, 2, 3, 4, 5, 6, 7, 8, 9, 10, 11, 12, 13, 14, 15, 16] [] rfl rfl (by decide) (by decide) (va_runV (As := [.int (nI a_50)]) (rest := []) ⟨hx, hb, hml, hown, hts⟩ (k_X10_fails l dC dI h cs H.size (va_up (va_up (va_up (va_up I 14 (nI rr)) 12 x12_46) 11 (nI a_50)) 15 (nI cc)) L (va_up A 13 f13_47) Q a_50) (cwV 1 hts gX10_read_X10_fails rfl rfl rfl (by decide +kernel) ⟨Nat.le_of_ble_eq_true rfl, Nat.le_of_ble_eq_true rfl⟩) (xpV (wc := (rW h cs (va_up (va_up (va_up (va_up I 14 (nI rr)) 12 x12_46) 11 (nI a_50)) 15 (nI cc)) L (va_up A 13 f13_47) Q)) hP hD hK hN [0, 1, 2, 3, 4, 5, 6, 7, 8, 9, 10, 11, 12, 13, 14, 15, 16] rfl (by decide) 0 (ci := 10) rfl rfl _) rfl rfl hl.1 rfl (lv_room (Nat.le_of_ble_eq_true rfl)) dX10_read_80 ⟨Nat.zero_le _, Nat.zero_le _⟩) (fun u_70 H locs hw hP hD hS => ?_)
                obtain ⟨x12_72, hf_73, rfl⟩ := hw
                have hP : va_P (dC, dI) vwCl (rW h cs (va_up (va_up (va_up (va_up I 14 (nI rr)) 11 (nI a_50)) 15 (nI cc)) 12 x12_72) L (va_up A 13 f13_47) Q) H := hP
                have hD : va_D A0 (rW h cs (va_up (va_up (va_up (va_up I 14 (nI rr)) 11 (nI a_50)) 15 (nI cc)) 12 x12_72) L (va_up A 13 f13_47) Q) := hD
                have hfl := wrg_e (by omega) hf_73
                refine lv_aload_n hx hb dX10_read_83 rfl (lv_at hl 1 rfl) ?_
                refine lv_dup hx hb dX10_read_84 rfl ?_
                refine va_get (D := (dC, dI)) (ci := 10) (v := .int (nI rr)) (C := RX10) (T := TX10) (N := 28) hx hb hts hinX10 hown hK hP 0 rfl rfl 14 (by decide) (hts (.fieldLink RX10 137 "MixedWordsModel" "readRows" "I") (by decide +kernel)) (fun _ h9 => h9) rfl dX10_read_85 ?_
                refine lv_iconst (v := nI 1) hx hb dX10_read_88 (by decide) ?_
                refine lv_iadd hx hb dX10_read_89 ?_
                refine xt_i (y := nI (rr + 1)) (nI_add _ _) ?_
                refine va_put (D := (dC, dI)) (ci := 10) (v := .int (nI (rr + 1))) (ty := .int) (C := RX10) (T := TX10) (N := 28) hx hb hts hinX10 tyX10 tyX10_ok nmX10 hown hK hP hD hS 0 rfl rfl 14 (by decide) (hts (.fieldLink RX10 137 "MixedWordsModel" "readRows" "I") (by decide +kernel)) (fun _ h9 => h9) rfl (by decide +kernel) rfl rfl (Nat.le_of_ble_eq_true rfl) dX10_read_90 (fun H locs hP hD hS => ?_)
                have hP : va_P (dC, dI) vwCl (rW h cs (va_up (va_up (va_up (va_up I 11 (nI a_50)) 15 (nI cc)) 12 x12_72) 14 (nI (rr + 1))) L (va_up A 13 f13_47) Q) H := hP
                have hD : va_D A0 (rW h cs (va_up (va_up (va_up (va_up I 11 (nI a_50)) 15 (nI cc)) 12 x12_72) 14 (nI (rr + 1))) L (va_up A 13 f13_47) Q) := hD
                refine lv_aload_n hx hb dX10_read_93 rfl (lv_at hl 1 rfl) ?_
                refine va_get (D := (dC, dI)) (ci := 10) (v := .int x12_72) (C := RX10) (T := TX10) (N := 28) hx hb hts hinX10 hown hK hP 0 rfl rfl 12 (by decide) (hts (.fieldLink RX10 122 "MixedWordsModel" "wrong" "I") (by decide +kernel)) (fun _ h9 => h9) rfl dX10_read_94 ?_
                refine lv_if_ge (tgt := 121) hx hb dX10_read_97 (by decide) (fun c_97_73 => ?_) (fun c_97_73 => ?_)
                · skip
                  refine lv_iconst (v := nI 0) hx hb dX10_read_121 (by decide) ?_
                  refine lv_istore_n (lv' := [(1, .int (nI 0)), (2, .int (nI n_49)), (0, .ref (h 0))]) hx hb dX10_read_122 rfl hl (by decide) rfl (fun ls hl => ?_)
                  refine lv_aload_n hx hb dX10_read_123 rfl (lv_at hl 2 rfl) ?_
                  refine lv_dup hx hb dX10_read_124 rfl ?_
                  refine va_get (D := (dC, dI)) (ci := 10) (v := .int (nI a_50)) (C := RX10) (T := TX10) (N := 28) hx hb hts hinX10 hown hK hP 0 rfl rfl 11 (by decide) (hts (.fieldLink RX10 119 "MixedWordsModel" "at" "I") (by decide +kernel)) (fun _ h9 => h9) rfl dX10_read_125 ?_
                  refine lv_iload_n hx hb dX10_read_128 rfl (lv_at hl 0 rfl) ?_
                  refine lv_if_eq (tgt := 136) hx hb dX10_read_129 (by decide) (fun _ => ?_) (fun c9 => False.elim (by revert c9; decide +kernel))
                  refine lv_iconst (v := nI 0) hx hb dX10_read_136 (by decide) ?_
                  refine lv_iadd hx hb dX10_read_137 ?_
                  refine xt_i (y := nI (a_50 + 0)) (nI_add _ _) ?_
                  refine va_put (D := (dC, dI)) (ci := 10) (v := .int (nI (a_50 + 0))) (ty := .int) (C := RX10) (T := TX10) (N := 28) hx hb hts hinX10 tyX10 tyX10_ok nmX10 hown hK hP hD hS 0 rfl rfl 11 (by decide) (hts (.fieldLink RX10 119 "MixedWordsModel" "at" "I") (by decide +kernel)) (fun _ h9 => h9) rfl (by decide +kernel) rfl rfl (Nat.le_of_ble_eq_true rfl) dX10_read_138 (fun H locs hP hD hS => ?_)
                  have hP : va_P (dC, dI) vwCl (rW h cs (va_up (va_up (va_up (va_up I 15 (nI cc)) 12 x12_72) 14 (nI (rr + 1))) 11 (nI (a_50 + 0))) L (va_up A 13 f13_47) Q) H := hP
                  have hD : va_D A0 (rW h cs (va_up (va_up (va_up (va_up I 15 (nI cc)) 12 x12_72) 14 (nI (rr + 1))) 11 (nI (a_50 + 0))) L (va_up A 13 f13_47) Q) := hD
                  refine lv_goto (tgt := 17) hx hb dX10_read_141 (by decide) ?_
                  exact ih_17 0 (rr + 1) cc (nI cc) (a_50 + 0) x12_72 f13_47 (by omega) (by first | assumption | omega) (by first | assumption | omega) (by first | exact (fun _ => ⟨by omega, by decide⟩) | exact (fun h9 => absurd h9 (by omega)) | exact (fun _ => ⟨by omega, by assumption⟩)) (by first | assumption | omega) (by first | exact (fun h9 => absurd h9 (by omega)) | exact (fun _ => ⟨rfl, by omega, by omega⟩)) (by first | exact (fun h9 => absurd h9 (by omega)) | exact (fun _ => by omega)) (by first | exact (fun _ i j hi => absurd hi (by omega)) | exact (fun h9 => absurd h9 hfl) | exact (fun h9 => absurd h9 (Int32.not_lt.mpr (by assumption))) | exact (fun h9 => rd_b hkp9 (fun i j a b => hb17 hm1.2 i j a b) (hrb9 h9) (by omega) (by omega)) | exact (fun h9 => rd_b hkp9 (fun i j a b => absurd a (by omega)) (hrb9 h9) (by omega) (by omega))) _ _ _ hP hD hS (lv_sub hl [2, 0] rfl)
                · skip
                  have hwn := Int32.not_le.mp c_97_73
                  exact absurd (Int32.not_le.mp c_97_73) hfl
          · skip
            omega
        · skip
          refine lv_iconst (v := nI 4) hx hb dX10_read_29 (by decide) ?_
          refine lv_goto (tgt := 37) hx hb dX10_read_30 (by decide) ?_
          refine xj_i (wc := (rW h cs (va_up (va_up (va_up (va_up I 11 (nI a1)) 12 w1) 14 (nI rr)) 15 c15) L (va_up A 13 g) Q)) (wr := ([] : va_W)) hP hD hS hA [0, 1, 2, 3, 4, 5, 6, 7, 8, 9, 10, 11, 12, 13, 14, 15, 16] [] rfl rfl (by decide) (by decide) (va_runV (As := [.int (nI 4)]) (rest := []) ⟨hx, hb, hml, hown, hts⟩ (k_X10_row l dC dI h cs H.size (va_up (va_up (va_up (va_up I 11 (nI a1)) 12 w1) 14 (nI rr)) 15 c15) L (va_up A 13 g) Q 4 T a1 rr (by first | assumption | omega) (by first | assumption | omega) hT (by first | assumption | omega | exact hT9) rfl (by first | assumption | omega) rfl (by first | assumption | omega)) (cwV 1 hts gX10_read_X10_row rfl rfl rfl (by decide +kernel) ⟨Nat.le_of_ble_eq_true rfl, Nat.le_of_ble_eq_true rfl⟩) (xpV (wc := (rW h cs (va_up (va_up (va_up (va_up I 11 (nI a1)) 12 w1) 14 (nI rr)) 15 c15) L (va_up A 13 g) Q)) hP hD hK hN [0, 1, 2, 3, 4, 5, 6, 7, 8, 9, 10, 11, 12, 13, 14, 15, 16] rfl (by decide) 0 (ci := 10) rfl rfl _) rfl rfl hl.1 rfl (lv_room (Nat.le_of_ble_eq_true rfl)) dX10_read_37 ⟨Nat.zero_le _, Nat.zero_le _⟩) (fun r_76 u_75 H locs hw hP hD hS => ?_)
          obtain ⟨x11_77, x12_78, f13_79, hf_80, rfl⟩ := hw
          have hP : va_P (dC, dI) vwCl (rW h cs (va_up (va_up (va_up (va_up I 14 (nI rr)) 15 c15) 11 x11_77) 12 x12_78) L (va_up A 13 f13_79) Q) H := hP
          have hD : va_D A0 (rW h cs (va_up (va_up (va_up (va_up I 14 (nI rr)) 15 c15) 11 x11_77) 12 x12_78) L (va_up A 13 f13_79) Q) := hD
          obtain ⟨n_81, a_82, rfl, rfl, hn1, hn2, ha2, hrow9, hkp9⟩ := hf_80
          have hrb9 := rowS_ok hT9 _ _ _ _ _ hrow9
          clear hrow9
          refine lv_istore_n (lv' := [(2, .int (nI n_81)), (0, .ref (h 0)), (1, .int (nI m1))]) hx hb dX10_read_40 rfl hl (by decide) rfl (fun ls hl => ?_)
          refine lv_aload_n hx hb dX10_read_41 rfl (lv_at hl 1 rfl) ?_
          refine lv_aload_n hx hb dX10_read_42 rfl (lv_at hl 1 rfl) ?_
          refine va_get (D := (dC, dI)) (ci := 10) (v := .int (nI rr)) (C := RX10) (T := TX10) (N := 28) hx hb hts hinX10 hown hK hP 0 rfl rfl 14 (by decide) (hts (.fieldLink RX10 137 "MixedWordsModel" "readRows" "I") (by decide +kernel)) (fun _ h9 => h9) rfl dX10_read_43 ?_
          refine xz_ne (tgt := 53) hx hb dX10_read_46 (by decide) (by omega) (fun c_46_82 => ?_) (fun c_46_82 => ?_)
          · skip
            omega
          · skip
            refine lv_iload_n hx hb dX10_read_49 rfl (lv_at hl 0 rfl) ?_
            refine lv_goto (tgt := 57) hx hb dX10_read_50 (by decide) ?_
            refine va_put (D := (dC, dI)) (ci := 10) (v := .int (nI n_81)) (ty := .int) (C := RX10) (T := TX10) (N := 28) hx hb hts hinX10 tyX10 tyX10_ok nmX10 hown hK hP hD hS 0 rfl rfl 15 (by decide) (hts (.fieldLink RX10 143 "MixedWordsModel" "readColumns" "I") (by decide +kernel)) (fun _ h9 => h9) rfl (by decide +kernel) rfl rfl (Nat.le_of_ble_eq_true rfl) dX10_read_57 (fun H locs hP hD hS => ?_)
            have hP : va_P (dC, dI) vwCl (rW h cs (va_up (va_up (va_up (va_up I 14 (nI rr)) 12 x12_78) 11 (nI a_82)) 15 (nI n_81)) L (va_up A 13 f13_79) Q) H := hP
            have hD : va_D A0 (rW h cs (va_up (va_up (va_up (va_up I 14 (nI rr)) 12 x12_78) 11 (nI a_82)) 15 (nI n_81)) L (va_up A 13 f13_79) Q) := hD
            refine lv_aload_n hx hb dX10_read_60 rfl (lv_at hl 1 rfl) ?_
            refine va_get (D := (dC, dI)) (ci := 10) (v := .int x12_78) (C := RX10) (T := TX10) (N := 28) hx hb hts hinX10 hown hK hP 0 rfl rfl 12 (by decide) (hts (.fieldLink RX10 122 "MixedWordsModel" "wrong" "I") (by decide +kernel)) (fun _ h9 => h9) rfl dX10_read_61 ?_
            refine lv_if_ge (tgt := 83) hx hb dX10_read_64 (by decide) (fun c_64_83 => ?_) (fun c_64_83 => ?_)
            · skip
              refine lv_aload_n hx hb dX10_read_83 rfl (lv_at hl 1 rfl) ?_
              refine lv_dup hx hb dX10_read_84 rfl ?_
              refine va_get (D := (dC, dI)) (ci := 10) (v := .int (nI rr)) (C := RX10) (T := TX10) (N := 28) hx hb hts hinX10 hown hK hP 0 rfl rfl 14 (by decide) (hts (.fieldLink RX10 137 "MixedWordsModel" "readRows" "I") (by decide +kernel)) (fun _ h9 => h9) rfl dX10_read_85 ?_
              refine lv_iconst (v := nI 1) hx hb dX10_read_88 (by decide) ?_
              refine lv_iadd hx hb dX10_read_89 ?_
              refine xt_i (y := nI (rr + 1)) (nI_add _ _) ?_
              refine va_put (D := (dC, dI)) (ci := 10) (v := .int (nI (rr + 1))) (ty := .int) (C := RX10) (T := TX10) (N := 28) hx hb hts hinX10 tyX10 tyX10_ok nmX10 hown hK hP hD hS 0 rfl rfl 14 (by decide) (hts (.fieldLink RX10 137 "MixedWordsModel" "readRows" "I") (by decide +kernel)) (fun _ h9 => h9) rfl (by decide +kernel) rfl rfl (Nat.le_of_ble_eq_true rfl) dX10_read_90 (fun H locs hP hD hS => ?_)
              have hP : va_P (dC, dI) vwCl (rW h cs (va_up (va_up (va_up (va_up I 12 x12_78) 11 (nI a_82)) 15 (nI n_81)) 14 (nI (rr + 1))) L (va_up A 13 f13_79) Q) H := hP
              have hD : va_D A0 (rW h cs (va_up (va_up (va_up (va_up I 12 x12_78) 11 (nI a_82)) 15 (nI n_81)) 14 (nI (rr + 1))) L (va_up A 13 f13_79) Q) := hD
              refine lv_aload_n hx hb dX10_read_93 rfl (lv_at hl 1 rfl) ?_
              refine va_get (D := (dC, dI)) (ci := 10) (v := .int x12_78) (C := RX10) (T := TX10) (N := 28) hx hb hts hinX10 hown hK hP 0 rfl rfl 12 (by decide) (hts (.fieldLink RX10 122 "MixedWordsModel" "wrong" "I") (by decide +kernel)) (fun _ h9 => h9) rfl dX10_read_94 ?_
              refine lv_if_ge (tgt := 121) hx hb dX10_read_97 (by decide) (fun c_97_84 => ?_) (fun c_97_84 => ?_)
              · skip
                refine lv_iconst (v := nI 0) hx hb dX10_read_121 (by decide) ?_
                refine lv_istore_n (lv' := [(1, .int (nI 0)), (2, .int (nI n_81)), (0, .ref (h 0))]) hx hb dX10_read_122 rfl hl (by decide) rfl (fun ls hl => ?_)
                refine lv_aload_n hx hb dX10_read_123 rfl (lv_at hl 2 rfl) ?_
                refine lv_dup hx hb dX10_read_124 rfl ?_
                refine va_get (D := (dC, dI)) (ci := 10) (v := .int (nI a_82)) (C := RX10) (T := TX10) (N := 28) hx hb hts hinX10 hown hK hP 0 rfl rfl 11 (by decide) (hts (.fieldLink RX10 119 "MixedWordsModel" "at" "I") (by decide +kernel)) (fun _ h9 => h9) rfl dX10_read_125 ?_
                refine lv_iload_n hx hb dX10_read_128 rfl (lv_at hl 0 rfl) ?_
                refine lv_if_eq (tgt := 136) hx hb dX10_read_129 (by decide) (fun _ => ?_) (fun c9 => False.elim (by revert c9; decide +kernel))
                refine lv_iconst (v := nI 0) hx hb dX10_read_136 (by decide) ?_
                refine lv_iadd hx hb dX10_read_137 ?_
                refine xt_i (y := nI (a_82 + 0)) (nI_add _ _) ?_
                refine va_put (D := (dC, dI)) (ci := 10) (v := .int (nI (a_82 + 0))) (ty := .int) (C := RX10) (T := TX10) (N := 28) hx hb hts hinX10 tyX10 tyX10_ok nmX10 hown hK hP hD hS 0 rfl rfl 11 (by decide) (hts (.fieldLink RX10 119 "MixedWordsModel" "at" "I") (by decide +kernel)) (fun _ h9 => h9) rfl (by decide +kernel) rfl rfl (Nat.le_of_ble_eq_true rfl) dX10_read_138 (fun H locs hP hD hS => ?_)
                have hP : va_P (dC, dI) vwCl (rW h cs (va_up (va_up (va_up (va_up I 12 x12_78) 15 (nI n_81)) 14 (nI (rr + 1))) 11 (nI (a_82 + 0))) L (va_up A 13 f13_79) Q) H := hP
                have hD : va_D A0 (rW h cs (va_up (va_up (va_up (va_up I 12 x12_78) 15 (nI n_81)) 14 (nI (rr + 1))) 11 (nI (a_82 + 0))) L (va_up A 13 f13_79) Q) := hD
                refine lv_goto (tgt := 17) hx hb dX10_read_141 (by decide) ?_
                exact ih_17 0 (rr + 1) n_81 (nI n_81) (a_82 + 0) x12_78 f13_79 (by omega) (by first | assumption | omega) (by first | assumption | omega) (by first | exact (fun _ => ⟨by omega, by decide⟩) | exact (fun h9 => absurd h9 (by omega)) | exact (fun _ => ⟨by omega, by assumption⟩)) (by first | assumption | omega) (by first | exact (fun h9 => absurd h9 (by omega)) | exact (fun _ => ⟨rfl, by omega, by omega⟩)) (by first | exact (fun h9 => absurd h9 (by omega)) | exact (fun _ => by omega)) (by first | exact (fun _ i j hi => absurd hi (by omega)) | exact (fun h9 => absurd h9 hfl) | exact (fun h9 => absurd h9 (Int32.not_lt.mpr (by assumption))) | exact (fun h9 => rd_b hkp9 (fun i j a b => hb17 hm1.2 i j a b) (hrb9 h9) (by omega) (by omega)) | exact (fun h9 => rd_b hkp9 (fun i j a b => absurd a (by omega)) (hrb9 h9) (by omega) (by omega))) _ _ _ hP hD hS (lv_sub hl [2, 0] rfl)
              · skip
                have hwn := Int32.not_le.mp c_97_84
                refine lv_aload_n hx hb dX10_read_100 rfl (lv_at hl 1 rfl) ?_
                refine xj_i (wc := (rW h cs (va_up (va_up (va_up (va_up I 12 x12_78) 11 (nI a_82)) 15 (nI n_81)) 14 (nI (rr + 1))) L (va_up A 13 f13_79) Q)) (wr := ([] : va_W)) hP hD hS hA [0, 1, 2, 3, 4, 5, 6, 7, 8, 9, 10, 11, 12, 13, 14, 15, 16] [] rfl rfl (by decide) (by decide) (va_runV (As := []) (rest := []) ⟨hx, hb, hml, hown, hts⟩ (k_X10_next l dC dI h cs H.size (va_up (va_up (va_up (va_up I 12 x12_78) 11 (nI a_82)) 15 (nI n_81)) 14 (nI (rr + 1))) L (va_up A 13 f13_79) Q T a_82 hT (by first | assumption | omega | exact hT9) rfl (by first | assumption | omega)) (cwV 0 hts gX10_read_X10_next rfl rfl rfl (by decide +kernel) ⟨Nat.le_of_ble_eq_true rfl, Nat.le_of_ble_eq_true rfl⟩) (xpV (wc := (rW h cs (va_up (va_up (va_up (va_up I 12 x12_78) 11 (nI a_82)) 15 (nI n_81)) 14 (nI (rr + 1))) L (va_up A 13 f13_79) Q)) hP hD hK hN [0, 1, 2, 3, 4, 5, 6, 7, 8, 9, 10, 11, 12, 13, 14, 15, 16] rfl (by decide) 0 (ci := 10) rfl rfl _) rfl rfl hl.1 rfl (lv_room (Nat.le_of_ble_eq_true rfl)) dX10_read_101 ⟨Nat.zero_le _, Nat.zero_le _⟩) (fun r_87 u_86 H locs hw hP hD hS => ?_)
                obtain ⟨x11_88, hf_89, rfl⟩ := hw
                have hP : va_P (dC, dI) vwCl (rW h cs (va_up (va_up (va_up (va_up I 12 x12_78) 15 (nI n_81)) 14 (nI (rr + 1))) 11 x11_88) L (va_up A 13 f13_79) Q) H := hP
                have hD : va_D A0 (rW h cs (va_up (va_up (va_up (va_up I 12 x12_78) 15 (nI n_81)) 14 (nI (rr + 1))) 11 x11_88) L (va_up A 13 f13_79) Q) := hD
                obtain ⟨j_90, hsk9, rfl, rfl⟩ := hf_89
                have hskT := hsk9.2.1
                refine lv_bipush (v := nI 59) hx hb dX10_read_104 (by decide) ?_
                refine lv_icmp_ne (tgt := 121) hx hb dX10_read_106 (by decide) (fun c_106_90 => ?_) (fun c_106_90 => ?_)
                · skip
                  refine lv_iconst (v := nI 0) hx hb dX10_read_121 (by decide) ?_
                  refine lv_istore_n (lv' := [(1, .int (nI 0)), (2, .int (nI n_81)), (0, .ref (h 0))]) hx hb dX10_read_122 rfl hl (by decide) rfl (fun ls hl => ?_)
                  refine lv_aload_n hx hb dX10_read_123 rfl (lv_at hl 2 rfl) ?_
                  refine lv_dup hx hb dX10_read_124 rfl ?_
                  refine va_get (D := (dC, dI)) (ci := 10) (v := .int (nI j_90)) (C := RX10) (T := TX10) (N := 28) hx hb hts hinX10 hown hK hP 0 rfl rfl 11 (by decide) (hts (.fieldLink RX10 119 "MixedWordsModel" "at" "I") (by decide +kernel)) (fun _ h9 => h9) rfl dX10_read_125 ?_
                  refine lv_iload_n hx hb dX10_read_128 rfl (lv_at hl 0 rfl) ?_
                  refine lv_if_eq (tgt := 136) hx hb dX10_read_129 (by decide) (fun _ => ?_) (fun c9 => False.elim (by revert c9; decide +kernel))
                  refine lv_iconst (v := nI 0) hx hb dX10_read_136 (by decide) ?_
                  refine lv_iadd hx hb dX10_read_137 ?_
                  refine xt_i (y := nI (j_90 + 0)) (nI_add _ _) ?_
                  refine va_put (D := (dC, dI)) (ci := 10) (v := .int (nI (j_90 + 0))) (ty := .int) (C := RX10) (T := TX10) (N := 28) hx hb hts hinX10 tyX10 tyX10_ok nmX10 hown hK hP hD hS 0 rfl rfl 11 (by decide) (hts (.fieldLink RX10 119 "MixedWordsModel" "at" "I") (by decide +kernel)) (fun _ h9 => h9) rfl (by decide +kernel) rfl rfl (Nat.le_of_ble_eq_true rfl) dX10_read_138 (fun H locs hP hD hS => ?_)
                  have hP : va_P (dC, dI) vwCl (rW h cs (va_up (va_up (va_up (va_up I 12 x12_78) 15 (nI n_81)) 14 (nI (rr + 1))) 11 (nI (j_90 + 0))) L (va_up A 13 f13_79) Q) H := hP
                  have hD : va_D A0 (rW h cs (va_up (va_up (va_up (va_up I 12 x12_78) 15 (nI n_81)) 14 (nI (rr + 1))) 11 (nI (j_90 + 0))) L (va_up A 13 f13_79) Q) := hD
                  refine lv_goto (tgt := 17) hx hb dX10_read_141 (by decide) ?_
                  exact ih_17 0 (rr + 1) n_81 (nI n_81) (j_90 + 0) x12_78 f13_79 (by omega) (by first | assumption | omega) (by first | assumption | omega) (by first | exact (fun _ => ⟨by omega, by decide⟩) | exact (fun h9 => absurd h9 (by omega)) | exact (fun _ => ⟨by omega, by assumption⟩)) (by first | assumption | omega) (by first | exact (fun h9 => absurd h9 (by omega)) | exact (fun _ => ⟨rfl, by omega, by omega⟩)) (by first | exact (fun h9 => absurd h9 (by omega)) | exact (fun _ => by omega)) (by first | exact (fun _ i j hi => absurd hi (by omega)) | exact (fun h9 => absurd h9 hfl) | exact (fun h9 => absurd h9 (Int32.not_lt.mpr (by assumption))) | exact (fun h9 => rd_b hkp9 (fun i j a b => hb17 hm1.2 i j a b) (hrb9 h9) (by omega) (by omega)) | exact (fun h9 => rd_b hkp9 (fun i j a b => absurd a (by omega)) (hrb9 h9) (by omega) (by omega))) _ _ _ hP hD hS (lv_sub hl [2, 0] rfl)
                · skip
                  have hcT := tp_ltc (by decide) (by decide) c_106_90
                  refine lv_aload_n hx hb dX10_read_109 rfl (lv_at hl 1 rfl) ?_
                  refine va_get (D := (dC, dI)) (ci := 10) (v := .int (nI (rr + 1))) (C := RX10) (T := TX10) (N := 28) hx hb hts hinX10 hown hK hP 0 rfl rfl 14 (by decide) (hts (.fieldLink RX10 137 "MixedWordsModel" "readRows" "I") (by decide +kernel)) (fun _ h9 => h9) rfl dX10_read_110 ?_
                  refine lv_iconst (v := nI 5) hx hb dX10_read_113 (by decide) ?_
                  refine xn_ge (tgt := 121) hx hb dX10_read_114 (by decide) (by omega) (by omega) (fun c_114_91 => ?_) (fun c_114_91 => ?_)
                  · skip
                    refine lv_iconst (v := nI 0) hx hb dX10_read_121 (by decide) ?_
                    refine lv_istore_n (lv' := [(1, .int (nI 0)), (2, .int (nI n_81)), (0, .ref (h 0))]) hx hb dX10_read_122 rfl hl (by decide) rfl (fun ls hl => ?_)
                    refine lv_aload_n hx hb dX10_read_123 rfl (lv_at hl 2 rfl) ?_
                    refine lv_dup hx hb dX10_read_124 rfl ?_
                    refine va_get (D := (dC, dI)) (ci := 10) (v := .int (nI j_90)) (C := RX10) (T := TX10) (N := 28) hx hb hts hinX10 hown hK hP 0 rfl rfl 11 (by decide) (hts (.fieldLink RX10 119 "MixedWordsModel" "at" "I") (by decide +kernel)) (fun _ h9 => h9) rfl dX10_read_125 ?_
                    refine lv_iload_n hx hb dX10_read_128 rfl (lv_at hl 0 rfl) ?_
                    refine lv_if_eq (tgt := 136) hx hb dX10_read_129 (by decide) (fun _ => ?_) (fun c9 => False.elim (by revert c9; decide +kernel))
                    refine lv_iconst (v := nI 0) hx hb dX10_read_136 (by decide) ?_
                    refine lv_iadd hx hb dX10_read_137 ?_
                    refine xt_i (y := nI (j_90 + 0)) (nI_add _ _) ?_
                    refine va_put (D := (dC, dI)) (ci := 10) (v := .int (nI (j_90 + 0))) (ty := .int) (C := RX10) (T := TX10) (N := 28) hx hb hts hinX10 tyX10 tyX10_ok nmX10 hown hK hP hD hS 0 rfl rfl 11 (by decide) (hts (.fieldLink RX10 119 "MixedWordsModel" "at" "I") (by decide +kernel)) (fun _ h9 => h9) rfl (by decide +kernel) rfl rfl (Nat.le_of_ble_eq_true rfl) dX10_read_138 (fun H locs hP hD hS => ?_)
                    have hP : va_P (dC, dI) vwCl (rW h cs (va_up (va_up (va_up (va_up I 12 x12_78) 15 (nI n_81)) 14 (nI (rr + 1))) 11 (nI (j_90 + 0))) L (va_up A 13 f13_79) Q) H := hP
                    have hD : va_D A0 (rW h cs (va_up (va_up (va_up (va_up I 12 x12_78) 15 (nI n_81)) 14 (nI (rr + 1))) 11 (nI (j_90 + 0))) L (va_up A 13 f13_79) Q) := hD
                    refine lv_goto (tgt := 17) hx hb dX10_read_141 (by decide) ?_
                    exact ih_17 0 (rr + 1) n_81 (nI n_81) (j_90 + 0) x12_78 f13_79 (by omega) (by first | assumption | omega) (by first | assumption | omega) (by first | exact (fun _ => ⟨by omega, by decide⟩) | exact (fun h9 => absurd h9 (by omega)) | exact (fun _ => ⟨by omega, by assumption⟩)) (by first | assumption | omega) (by first | exact (fun h9 => absurd h9 (by omega)) | exact (fun _ => ⟨rfl, by omega, by omega⟩)) (by first | exact (fun h9 => absurd h9 (by omega)) | exact (fun _ => by omega)) (by first | exact (fun _ i j hi => absurd hi (by omega)) | exact (fun h9 => absurd h9 hfl) | exact (fun h9 => absurd h9 (Int32.not_lt.mpr (by assumption))) | exact (fun h9 => rd_b hkp9 (fun i j a b => hb17 hm1.2 i j a b) (hrb9 h9) (by omega) (by omega)) | exact (fun h9 => rd_b hkp9 (fun i j a b => absurd a (by omega)) (hrb9 h9) (by omega) (by omega))) _ _ _ hP hD hS (lv_sub hl [2, 0] rfl)
                  · skip
                    refine lv_iconst (v := nI 1) hx hb dX10_read_117 (by decide) ?_
                    refine lv_goto (tgt := 122) hx hb dX10_read_118 (by decide) ?_
                    refine lv_istore_n (lv' := [(1, .int (nI 1)), (2, .int (nI n_81)), (0, .ref (h 0))]) hx hb dX10_read_122 rfl hl (by decide) rfl (fun ls hl => ?_)
                    refine lv_aload_n hx hb dX10_read_123 rfl (lv_at hl 2 rfl) ?_
                    refine lv_dup hx hb dX10_read_124 rfl ?_
                    refine va_get (D := (dC, dI)) (ci := 10) (v := .int (nI j_90)) (C := RX10) (T := TX10) (N := 28) hx hb hts hinX10 hown hK hP 0 rfl rfl 11 (by decide) (hts (.fieldLink RX10 119 "MixedWordsModel" "at" "I") (by decide +kernel)) (fun _ h9 => h9) rfl dX10_read_125 ?_
                    refine lv_iload_n hx hb dX10_read_128 rfl (lv_at hl 0 rfl) ?_
                    refine lv_if_eq (tgt := 136) hx hb dX10_read_129 (by decide) (fun c9 => False.elim (by revert c9; decide +kernel)) (fun _ => ?_)
                    refine lv_iconst (v := nI 1) hx hb dX10_read_132 (by decide) ?_
                    refine lv_goto (tgt := 137) hx hb dX10_read_133 (by decide) ?_
                    refine lv_iadd hx hb dX10_read_137 ?_
                    refine xt_i (y := nI (j_90 + 1)) (nI_add _ _) ?_
                    refine va_put (D := (dC, dI)) (ci := 10) (v := .int (nI (j_90 + 1))) (ty := .int) (C := RX10) (T := TX10) (N := 28) hx hb hts hinX10 tyX10 tyX10_ok nmX10 hown hK hP hD hS 0 rfl rfl 11 (by decide) (hts (.fieldLink RX10 119 "MixedWordsModel" "at" "I") (by decide +kernel)) (fun _ h9 => h9) rfl (by decide +kernel) rfl rfl (Nat.le_of_ble_eq_true rfl) dX10_read_138 (fun H locs hP hD hS => ?_)
                    have hP : va_P (dC, dI) vwCl (rW h cs (va_up (va_up (va_up (va_up I 12 x12_78) 15 (nI n_81)) 14 (nI (rr + 1))) 11 (nI (j_90 + 1))) L (va_up A 13 f13_79) Q) H := hP
                    have hD : va_D A0 (rW h cs (va_up (va_up (va_up (va_up I 12 x12_78) 15 (nI n_81)) 14 (nI (rr + 1))) 11 (nI (j_90 + 1))) L (va_up A 13 f13_79) Q) := hD
                    refine lv_goto (tgt := 17) hx hb dX10_read_141 (by decide) ?_
                    exact ih_17 1 (rr + 1) n_81 (nI n_81) (j_90 + 1) x12_78 f13_79 (by omega) (by first | assumption | omega) (by first | assumption | omega) (by first | exact (fun _ => ⟨by omega, by decide⟩) | exact (fun h9 => absurd h9 (by omega)) | exact (fun _ => ⟨by omega, by assumption⟩)) (by first | assumption | omega) (by first | exact (fun h9 => absurd h9 (by omega)) | exact (fun _ => ⟨rfl, by omega, by omega⟩)) (by first | exact (fun h9 => absurd h9 (by omega)) | exact (fun _ => by omega)) (by first | exact (fun _ i j hi => absurd hi (by omega)) | exact (fun h9 => absurd h9 hfl) | exact (fun h9 => absurd h9 (Int32.not_lt.mpr (by assumption))) | exact (fun h9 => rd_b hkp9 (fun i j a b => hb17 hm1.2 i j a b) (hrb9 h9) (by omega) (by omega)) | exact (fun h9 => rd_b hkp9 (fun i j a b => absurd a (by omega)) (hrb9 h9) (by omega) (by omega))) _ _ _ hP hD hS (lv_sub hl [2, 0] rfl)
            · skip
              refine lv_iload_n hx hb dX10_read_67 rfl (lv_at hl 0 rfl) ?_
              refine lv_aload_n hx hb dX10_read_68 rfl (lv_at hl 1 rfl) ?_
              refine va_get (D := (dC, dI)) (ci := 10) (v := .int (nI n_81)) (C := RX10) (T := TX10) (N := 28) hx hb hts hinX10 hown hK hP 0 rfl rfl 15 (by decide) (hts (.fieldLink RX10 143 "MixedWordsModel" "readColumns" "I") (by decide +kernel)) (fun _ h9 => h9) rfl dX10_read_69 ?_
              refine xn_ge (tgt := 83) hx hb dX10_read_72 (by decide) (by omega) (by omega) (fun c_72_92 => ?_) (fun c_72_92 => ?_)
              · skip
                refine lv_aload_n hx hb dX10_read_83 rfl (lv_at hl 1 rfl) ?_
                refine lv_dup hx hb dX10_read_84 rfl ?_
                refine va_get (D := (dC, dI)) (ci := 10) (v := .int (nI rr)) (C := RX10) (T := TX10) (N := 28) hx hb hts hinX10 hown hK hP 0 rfl rfl 14 (by decide) (hts (.fieldLink RX10 137 "MixedWordsModel" "readRows" "I") (by decide +kernel)) (fun _ h9 => h9) rfl dX10_read_85 ?_
                refine lv_iconst (v := nI 1) hx hb dX10_read_88 (by decide) ?_
                refine lv_iadd hx hb dX10_read_89 ?_
                refine xt_i (y := nI (rr + 1)) (nI_add _ _) ?_
                refine va_put (D := (dC, dI)) (ci := 10) (v := .int (nI (rr + 1))) (ty := .int) (C := RX10) (T := TX10) (N := 28) hx hb hts hinX10 tyX10 tyX10_ok nmX10 hown hK hP hD hS 0 rfl rfl 14 (by decide) (hts (.fieldLink RX10 137 "MixedWordsModel" "readRows" "I") (by decide +kernel)) (fun _ h9 => h9) rfl (by decide +kernel) rfl rfl (Nat.le_of_ble_eq_true rfl) dX10_read_90 (fun H locs hP hD hS => ?_)
                have hP : va_P (dC, dI) vwCl (rW h cs (va_up (va_up (va_up (va_up I 12 x12_78) 11 (nI a_82)) 15 (nI n_81)) 14 (nI (rr + 1))) L (va_up A 13 f13_79) Q) H := hP
                have hD : va_D A0 (rW h cs (va_up (va_up (va_up (va_up I 12 x12_78) 11 (nI a_82)) 15 (nI n_81)) 14 (nI (rr + 1))) L (va_up A 13 f13_79) Q) := hD
                refine lv_aload_n hx hb dX10_read_93 rfl (lv_at hl 1 rfl) ?_
                refine va_get (D := (dC, dI)) (ci := 10) (v := .int x12_78) (C := RX10) (T := TX10) (N := 28) hx hb hts hinX10 hown hK hP 0 rfl rfl 12 (by decide) (hts (.fieldLink RX10 122 "MixedWordsModel" "wrong" "I") (by decide +kernel)) (fun _ h9 => h9) rfl dX10_read_94 ?_
                refine lv_if_ge (tgt := 121) hx hb dX10_read_97 (by decide) (fun c_97_93 => ?_) (fun c_97_93 => ?_)
                · skip
                  refine lv_iconst (v := nI 0) hx hb dX10_read_121 (by decide) ?_
                  refine lv_istore_n (lv' := [(1, .int (nI 0)), (2, .int (nI n_81)), (0, .ref (h 0))]) hx hb dX10_read_122 rfl hl (by decide) rfl (fun ls hl => ?_)
                  refine lv_aload_n hx hb dX10_read_123 rfl (lv_at hl 2 rfl) ?_
                  refine lv_dup hx hb dX10_read_124 rfl ?_
                  refine va_get (D := (dC, dI)) (ci := 10) (v := .int (nI a_82)) (C := RX10) (T := TX10) (N := 28) hx hb hts hinX10 hown hK hP 0 rfl rfl 11 (by decide) (hts (.fieldLink RX10 119 "MixedWordsModel" "at" "I") (by decide +kernel)) (fun _ h9 => h9) rfl dX10_read_125 ?_
                  refine lv_iload_n hx hb dX10_read_128 rfl (lv_at hl 0 rfl) ?_
                  refine lv_if_eq (tgt := 136) hx hb dX10_read_129 (by decide) (fun _ => ?_) (fun c9 => False.elim (by revert c9; decide +kernel))
                  refine lv_iconst (v := nI 0) hx hb dX10_read_136 (by decide) ?_
                  refine lv_iadd hx hb dX10_read_137 ?_
                  refine xt_i (y := nI (a_82 + 0)) (nI_add _ _) ?_
                  refine va_put (D := (dC, dI)) (ci := 10) (v := .int (nI (a_82 + 0))) (ty := .int) (C := RX10) (T := TX10) (N := 28) hx hb hts hinX10 tyX10 tyX10_ok nmX10 hown hK hP hD hS 0 rfl rfl 11 (by decide) (hts (.fieldLink RX10 119 "MixedWordsModel" "at" "I") (by decide +kernel)) (fun _ h9 => h9) rfl (by decide +kernel) rfl rfl (Nat.le_of_ble_eq_true rfl) dX10_read_138 (fun H locs hP hD hS => ?_)
                  have hP : va_P (dC, dI) vwCl (rW h cs (va_up (va_up (va_up (va_up I 12 x12_78) 15 (nI n_81)) 14 (nI (rr + 1))) 11 (nI (a_82 + 0))) L (va_up A 13 f13_79) Q) H := hP
                  have hD : va_D A0 (rW h cs (va_up (va_up (va_up (va_up I 12 x12_78) 15 (nI n_81)) 14 (nI (rr + 1))) 11 (nI (a_82 + 0))) L (va_up A 13 f13_79) Q) := hD
                  refine lv_goto (tgt := 17) hx hb dX10_read_141 (by decide) ?_
                  exact ih_17 0 (rr + 1) n_81 (nI n_81) (a_82 + 0) x12_78 f13_79 (by omega) (by first | assumption | omega) (by first | assumption | omega) (by first | exact (fun _ => ⟨by omega, by decide⟩) | exact (fun h9 => absurd h9 (by omega)) | exact (fun _ => ⟨by omega, by assumption⟩)) (by first | assumption | omega) (by first | exact (fun h9 => absurd h9 (by omega)) | exact (fun _ => ⟨rfl, by omega, by omega⟩)) (by first | exact (fun h9 => absurd h9 (by omega)) | exact (fun _ => by omega)) (by first | exact (fun _ i j hi => absurd hi (by omega)) | exact (fun h9 => absurd h9 hfl) | exact (fun h9 => absurd h9 (Int32.not_lt.mpr (by assumption))) | exact (fun h9 => rd_b hkp9 (fun i j a b => hb17 hm1.2 i j a b) (hrb9 h9) (by omega) (by omega)) | exact (fun h9 => rd_b hkp9 (fun i j a b => absurd a (by omega)) (hrb9 h9) (by omega) (by omega))) _ _ _ hP hD hS (lv_sub hl [2, 0] rfl)
                · skip
                  have hwn := Int32.not_le.mp c_97_93
                  refine lv_aload_n hx hb dX10_read_100 rfl (lv_at hl 1 rfl) ?_
                  refine xj_i (wc := (rW h cs (va_up (va_up (va_up (va_up I 12 x12_78) 11 (nI a_82)) 15 (nI n_81)) 14 (nI (rr + 1))) L (va_up A 13 f13_79) Q)) (wr := ([] : va_W)) hP hD hS hA [0, 1, 2, 3, 4, 5, 6, 7, 8, 9, 10, 11, 12, 13, 14, 15, 16] [] rfl rfl (by decide) (by decide) (va_runV (As := []) (rest := []) ⟨hx, hb, hml, hown, hts⟩ (k_X10_next l dC dI h cs H.size (va_up (va_up (va_up (va_up I 12 x12_78) 11 (nI a_82)) 15 (nI n_81)) 14 (nI (rr + 1))) L (va_up A 13 f13_79) Q T a_82 hT (by first | assumption | omega | exact hT9) rfl (by first | assumption | omega)) (cwV 0 hts gX10_read_X10_next rfl rfl rfl (by decide +kernel) ⟨Nat.le_of_ble_eq_true rfl, Nat.le_of_ble_eq_true rfl⟩) (xpV (wc := (rW h cs (va_up (va_up (va_up (va_up I 12 x12_78) 11 (nI a_82)) 15 (nI n_81)) 14 (nI (rr + 1))) L (va_up A 13 f13_79) Q)) hP hD hK hN [0, 1, 2, 3, 4, 5, 6, 7, 8, 9, 10, 11, 12, 13, 14, 15, 16] rfl (by decide) 0 (ci := 10) rfl rfl _) rfl rfl hl.1 rfl (lv_room (Nat.le_of_ble_eq_true rfl)) dX10_read_101 ⟨Nat.zero_le _, Nat.zero_le _⟩) (fun r_96 u_95 H locs hw hP hD hS => ?_)
                  obtain ⟨x11_97, hf_98, rfl⟩ := hw
                  have hP : va_P (dC, dI) vwCl (rW h cs (va_up (va_up (va_up (va_up I 12 x12_78) 15 (nI n_81)) 14 (nI (rr + 1))) 11 x11_97) L (va_up A 13 f13_79) Q) H := hP
                  have hD : va_D A0 (rW h cs (va_up (va_up (va_up (va_up I 12 x12_78) 15 (nI n_81)) 14 (nI (rr + 1))) 11 x11_97) L (va_up A 13 f13_79) Q) := hD
                  obtain ⟨j_99, hsk9, rfl, rfl⟩ := hf_98
                  have hskT := hsk9.2.1
                  refine lv_bipush (v := nI 59) hx hb dX10_read_104 (by decide) ?_
                  refine lv_icmp_ne (tgt := 121) hx hb dX10_read_106 (by decide) (fun c_106_99 => ?_) (fun c_106_99 => ?_)
                  · skip
                    refine lv_iconst (v := nI 0) hx hb dX10_read_121 (by decide) ?_
                    refine lv_istore_n (lv' := [(1, .int (nI 0)), (2, .int (nI n_81)), (0, .ref (h 0))]) hx hb dX10_read_122 rfl hl (by decide) rfl (fun ls hl => ?_)
                    refine lv_aload_n hx hb dX10_read_123 rfl (lv_at hl 2 rfl) ?_
                    refine lv_dup hx hb dX10_read_124 rfl ?_
                    refine va_get (D := (dC, dI)) (ci := 10) (v := .int (nI j_99)) (C := RX10) (T := TX10) (N := 28) hx hb hts hinX10 hown hK hP 0 rfl rfl 11 (by decide) (hts (.fieldLink RX10 119 "MixedWordsModel" "at" "I") (by decide +kernel)) (fun _ h9 => h9) rfl dX10_read_125 ?_
                    refine lv_iload_n hx hb dX10_read_128 rfl (lv_at hl 0 rfl) ?_
                    refine lv_if_eq (tgt := 136) hx hb dX10_read_129 (by decide) (fun _ => ?_) (fun c9 => False.elim (by revert c9; decide +kernel))
                    refine lv_iconst (v := nI 0) hx hb dX10_read_136 (by decide) ?_
                    refine lv_iadd hx hb dX10_read_137 ?_
                    refine xt_i (y := nI (j_99 + 0)) (nI_add _ _) ?_
                    refine va_put (D := (dC, dI)) (ci := 10) (v := .int (nI (j_99 + 0))) (ty := .int) (C := RX10) (T := TX10) (N := 28) hx hb hts hinX10 tyX10 tyX10_ok nmX10 hown hK hP hD hS 0 rfl rfl 11 (by decide) (hts (.fieldLink RX10 119 "MixedWordsModel" "at" "I") (by decide +kernel)) (fun _ h9 => h9) rfl (by decide +kernel) rfl rfl (Nat.le_of_ble_eq_true rfl) dX10_read_138 (fun H locs hP hD hS => ?_)
                    have hP : va_P (dC, dI) vwCl (rW h cs (va_up (va_up (va_up (va_up I 12 x12_78) 15 (nI n_81)) 14 (nI (rr + 1))) 11 (nI (j_99 + 0))) L (va_up A 13 f13_79) Q) H := hP
                    have hD : va_D A0 (rW h cs (va_up (va_up (va_up (va_up I 12 x12_78) 15 (nI n_81)) 14 (nI (rr + 1))) 11 (nI (j_99 + 0))) L (va_up A 13 f13_79) Q) := hD
                    refine lv_goto (tgt := 17) hx hb dX10_read_141 (by decide) ?_
                    exact ih_17 0 (rr + 1) n_81 (nI n_81) (j_99 + 0) x12_78 f13_79 (by omega) (by first | assumption | omega) (by first | assumption | omega) (by first | exact (fun _ => ⟨by omega, by decide⟩) | exact (fun h9 => absurd h9 (by omega)) | exact (fun _ => ⟨by omega, by assumption⟩)) (by first | assumption | omega) (by first | exact (fun h9 => absurd h9 (by omega)) | exact (fun _ => ⟨rfl, by omega, by omega⟩)) (by first | exact (fun h9 => absurd h9 (by omega)) | exact (fun _ => by omega)) (by first | exact (fun _ i j hi => absurd hi (by omega)) | exact (fun h9 => absurd h9 hfl) | exact (fun h9 => absurd h9 (Int32.not_lt.mpr (by assumption))) | exact (fun h9 => rd_b hkp9 (fun i j a b => hb17 hm1.2 i j a b) (hrb9 h9) (by omega) (by omega)) | exact (fun h9 => rd_b hkp9 (fun i j a b => absurd a (by omega)) (hrb9 h9) (by omega) (by omega))) _ _ _ hP hD hS (lv_sub hl [2, 0] rfl)
                  · skip
                    have hcT := tp_ltc (by decide) (by decide) c_106_99
                    refine lv_aload_n hx hb dX10_read_109 rfl (lv_at hl 1 rfl) ?_
                    refine va_get (D := (dC, dI)) (ci := 10) (v := .int (nI (rr + 1))) (C := RX10) (T := TX10) (N := 28) hx hb hts hinX10 hown hK hP 0 rfl rfl 14 (by decide) (hts (.fieldLink RX10 137 "MixedWordsModel" "readRows" "I") (by decide +kernel)) (fun _ h9 => h9) rfl dX10_read_110 ?_
                    refine lv_iconst (v := nI 5) hx hb dX10_read_113 (by decide) ?_
                    refine xn_ge (tgt := 121) hx hb dX10_read_114 (by decide) (by omega) (by omega) (fun c_114_100 => ?_) (fun c_114_100 => ?_)
                    · skip
                      refine lv_iconst (v := nI 0) hx hb dX10_read_121 (by decide) ?_
                      refine lv_istore_n (lv' := [(1, .int (nI 0)), (2, .int (nI n_81)), (0, .ref (h 0))]) hx hb dX10_read_122 rfl hl (by decide) rfl (fun ls hl => ?_)
                      refine lv_aload_n hx hb dX10_read_123 rfl (lv_at hl 2 rfl) ?_
                      refine lv_dup hx hb dX10_read_124 rfl ?_
                      refine va_get (D := (dC, dI)) (ci := 10) (v := .int (nI j_99)) (C := RX10) (T := TX10) (N := 28) hx hb hts hinX10 hown hK hP 0 rfl rfl 11 (by decide) (hts (.fieldLink RX10 119 "MixedWordsModel" "at" "I") (by decide +kernel)) (fun _ h9 => h9) rfl dX10_read_125 ?_
                      refine lv_iload_n hx hb dX10_read_128 rfl (lv_at hl 0 rfl) ?_
                      refine lv_if_eq (tgt := 136) hx hb dX10_read_129 (by decide) (fun _ => ?_) (fun c9 => False.elim (by revert c9; decide +kernel))
                      refine lv_iconst (v := nI 0) hx hb dX10_read_136 (by decide) ?_
                      refine lv_iadd hx hb dX10_read_137 ?_
                      refine xt_i (y := nI (j_99 + 0)) (nI_add _ _) ?_
                      refine va_put (D := (dC, dI)) (ci := 10) (v := .int (nI (j_99 + 0))) (ty := .int) (C := RX10) (T := TX10) (N := 28) hx hb hts hinX10 tyX10 tyX10_ok nmX10 hown hK hP hD hS 0 rfl rfl 11 (by decide) (hts (.fieldLink RX10 119 "MixedWordsModel" "at" "I") (by decide +kernel)) (fun _ h9 => h9) rfl (by decide +kernel) rfl rfl (Nat.le_of_ble_eq_true rfl) dX10_read_138 (fun H locs hP hD hS => ?_)
                      have hP : va_P (dC, dI) vwCl (rW h cs (va_up (va_up (va_up (va_up I 12 x12_78) 15 (nI n_81)) 14 (nI (rr + 1))) 11 (nI (j_99 + 0))) L (va_up A 13 f13_79) Q) H := hP
                      have hD : va_D A0 (rW h cs (va_up (va_up (va_up (va_up I 12 x12_78) 15 (nI n_81)) 14 (nI (rr + 1))) 11 (nI (j_99 + 0))) L (va_up A 13 f13_79) Q) := hD
                      refine lv_goto (tgt := 17) hx hb dX10_read_141 (by decide) ?_
                      exact ih_17 0 (rr + 1) n_81 (nI n_81) (j_99 + 0) x12_78 f13_79 (by omega) (by first | assumption | omega) (by first | assumption | omega) (by first | exact (fun _ => ⟨by omega, by decide⟩) | exact (fun h9 => absurd h9 (by omega)) | exact (fun _ => ⟨by omega, by assumption⟩)) (by first | assumption | omega) (by first | exact (fun h9 => absurd h9 (by omega)) | exact (fun _ => ⟨rfl, by omega, by omega⟩)) (by first | exact (fun h9 => absurd h9 (by omega)) | exact (fun _ => by omega)) (by first | exact (fun _ i j hi => absurd hi (by omega)) | exact (fun h9 => absurd h9 hfl) | exact (fun h9 => absurd h9 (Int32.not_lt.mpr (by assumption))) | exact (fun h9 => rd_b hkp9 (fun i j a b => hb17 hm1.2 i j a b) (hrb9 h9) (by omega) (by omega)) | exact (fun h9 => rd_b hkp9 (fun i j a b => absurd a (by omega)) (hrb9 h9) (by omega) (by omega))) _ _ _ hP hD hS (lv_sub hl [2, 0] rfl)
                    · skip
                      refine lv_iconst (v := nI 1) hx hb dX10_read_117 (by decide) ?_
                      refine lv_goto (tgt := 122) hx hb dX10_read_118 (by decide) ?_
                      refine lv_istore_n (lv' := [(1, .int (nI 1)), (2, .int (nI n_81)), (0, .ref (h 0))]) hx hb dX10_read_122 rfl hl (by decide) rfl (fun ls hl => ?_)
                      refine lv_aload_n hx hb dX10_read_123 rfl (lv_at hl 2 rfl) ?_
                      refine lv_dup hx hb dX10_read_124 rfl ?_
                      refine va_get (D := (dC, dI)) (ci := 10) (v := .int (nI j_99)) (C := RX10) (T := TX10) (N := 28) hx hb hts hinX10 hown hK hP 0 rfl rfl 11 (by decide) (hts (.fieldLink RX10 119 "MixedWordsModel" "at" "I") (by decide +kernel)) (fun _ h9 => h9) rfl dX10_read_125 ?_
                      refine lv_iload_n hx hb dX10_read_128 rfl (lv_at hl 0 rfl) ?_
                      refine lv_if_eq (tgt := 136) hx hb dX10_read_129 (by decide) (fun c9 => False.elim (by revert c9; decide +kernel)) (fun _ => ?_)
                      refine lv_iconst (v := nI 1) hx hb dX10_read_132 (by decide) ?_
                      refine lv_goto (tgt := 137) hx hb dX10_read_133 (by decide) ?_
                      refine lv_iadd hx hb dX10_read_137 ?_
                      refine xt_i (y := nI (j_99 + 1)) (nI_add _ _) ?_
                      refine va_put (D := (dC, dI)) (ci := 10) (v := .int (nI (j_99 + 1))) (ty := .int) (C := RX10) (T := TX10) (N := 28) hx hb hts hinX10 tyX10 tyX10_ok nmX10 hown hK hP hD hS 0 rfl rfl 11 (by decide) (hts (.fieldLink RX10 119 "MixedWordsModel" "at" "I") (by decide +kernel)) (fun _ h9 => h9) rfl (by decide +kernel) rfl rfl (Nat.le_of_ble_eq_true rfl) dX10_read_138 (fun H locs hP hD hS => ?_)
                      have hP : va_P (dC, dI) vwCl (rW h cs (va_up (va_up (va_up (va_up I 12 x12_78) 15 (nI n_81)) 14 (nI (rr + 1))) 11 (nI (j_99 + 1))) L (va_up A 13 f13_79) Q) H := hP
                      have hD : va_D A0 (rW h cs (va_up (va_up (va_up (va_up I 12 x12_78) 15 (nI n_81)) 14 (nI (rr + 1))) 11 (nI (j_99 + 1))) L (va_up A 13 f13_79) Q) := hD
                      refine lv_goto (tgt := 17) hx hb dX10_read_141 (by decide) ?_
                      exact ih_17 1 (rr + 1) n_81 (nI n_81) (j_99 + 1) x12_78 f13_79 (by omega) (by first | assumption | omega) (by first | assumption | omega) (by first | exact (fun _ => ⟨by omega, by decide⟩) | exact (fun h9 => absurd h9 (by omega)) | exact (fun _ => ⟨by omega, by assumption⟩)) (by first | assumption | omega) (by first | exact (fun h9 => absurd h9 (by omega)) | exact (fun _ => ⟨rfl, by omega, by omega⟩)) (by first | exact (fun h9 => absurd h9 (by omega)) | exact (fun _ => by omega)) (by first | exact (fun _ i j hi => absurd hi (by omega)) | exact (fun h9 => absurd h9 hfl) | exact (fun h9 => absurd h9 (Int32.not_lt.mpr (by assumption))) | exact (fun h9 => rd_b hkp9 (fun i j a b => hb17 hm1.2 i j a b) (hrb9 h9) (by omega) (by omega)) | exact (fun h9 => rd_b hkp9 (fun i j a b => absurd a (by omega)) (hrb9 h9) (by omega) (by omega))) _ _ _ hP hD hS (lv_sub hl [2, 0] rfl)
              · skip
                refine lv_aload_n hx hb dX10_read_75 rfl (lv_at hl 1 rfl) ?_
                refine lv_aload_n hx hb dX10_read_76 rfl (lv_at hl 1 rfl) ?_
                refine va_get (D := (dC, dI)) (ci := 10) (v := .int (nI a_82)) (C := RX10) (T := TX10) (N := 28) hx hb hts hinX10 hown hK hP 0 rfl rfl 11 (by decide) (hts (.fieldLink RX10 119 "MixedWordsModel" "at" "I") (by decide +kernel)) (fun _ h9 => h9) rfl dX10_read_77 ?_
                refine xj_v (wc := (rW h cs (va_up (va_up (va_up (va_up I 14 (nI rr)) 12 x12_78) 11 (nI a_82)) 15 (nI n_81)) L (va_up A 13 f13_79) Q)) (wr := ([] : va_W)) hP hD hS hA [0, 1, 2, 3, 4, 5, 6, 7, 8, 9, 10, 11, 12, 13, 14, 15, 16] [] rfl rfl (by decide) (by decide) (va_runV (As := [.int (nI a_82)]) (rest := []) ⟨hx, hb, hml, hown, hts⟩ (k_X10_fails l dC dI h cs H.size (va_up (va_up (va_up (va_up I 14 (nI rr)) 12 x12_78) 11 (nI a_82)) 15 (nI n_81)) L (va_up A 13 f13_79) Q a_82) (cwV 1 hts gX10_read_X10_fails rfl rfl rfl (by decide +kernel) ⟨Nat.le_of_ble_eq_true rfl, Nat.le_of_ble_eq_true rfl⟩) (xpV (wc := (rW h cs (va_up (va_up (va_up (va_up I 14 (nI rr)) 12 x12_78) 11 (nI a_82)) 15 (nI n_81)) L (va_up A 13 f13_79) Q)) hP hD hK hN [0, 1, 2, 3, 4, 5, 6, 7, 8, 9, 10, 11, 12, 13, 14, 15, 16] rfl (by decide) 0 (ci := 10) rfl rfl _) rfl rfl hl.1 rfl (lv_room (Nat.le_of_ble_eq_true rfl)) dX10_read_80 ⟨Nat.zero_le _, Nat.zero_le _⟩) (fun u_102 H locs hw hP hD hS => ?_)
                obtain ⟨x12_104, hf_105, rfl⟩ := hw
                have hP : va_P (dC, dI) vwCl (rW h cs (va_up (va_up (va_up (va_up I 14 (nI rr)) 11 (nI a_82)) 15 (nI n_81)) 12 x12_104) L (va_up A 13 f13_79) Q) H := hP
                have hD : va_D A0 (rW h cs (va_up (va_up (va_up (va_up I 14 (nI rr)) 11 (nI a_82)) 15 (nI n_81)) 12 x12_104) L (va_up A 13 f13_79) Q) := hD
                have hfl := wrg_e (by omega) hf_105
                refine lv_aload_n hx hb dX10_read_83 rfl (lv_at hl 1 rfl) ?_
                refine lv_dup hx hb dX10_read_84 rfl ?_
                refine va_get (D := (dC, dI)) (ci := 10) (v := .int (nI rr)) (C := RX10) (T := TX10) (N := 28) hx hb hts hinX10 hown hK hP 0 rfl rfl 14 (by decide) (hts (.fieldLink RX10 137 "MixedWordsModel" "readRows" "I") (by decide +kernel)) (fun _ h9 => h9) rfl dX10_read_85 ?_
                refine lv_iconst (v := nI 1) hx hb dX10_read_88 (by decide) ?_
                refine lv_iadd hx hb dX10_read_89 ?_
                refine xt_i (y := nI (rr + 1)) (nI_add _ _) ?_
                refine va_put (D := (dC, dI)) (ci := 10) (v := .int (nI (rr + 1))) (ty := .int) (C := RX10) (T := TX10) (N := 28) hx hb hts hinX10 tyX10 tyX10_ok nmX10 hown hK hP hD hS 0 rfl rfl 14 (by decide) (hts (.fieldLink RX10 137 "MixedWordsModel" "readRows" "I") (by decide +kernel)) (fun _ h9 => h9) rfl (by decide +kernel) rfl rfl (Nat.le_of_ble_eq_true rfl) dX10_read_90 (fun H locs hP hD hS => ?_)
                have hP : va_P (dC, dI) vwCl (rW h cs (va_up (va_up (va_up (va_up I 11 (nI a_82)) 15 (nI n_81)) 12 x12_104) 14 (nI (rr + 1))) L (va_up A 13 f13_79) Q) H := hP
                have hD : va_D A0 (rW h cs (va_up (va_up (va_up (va_up I 11 (nI a_82)) 15 (nI n_81)) 12 x12_104) 14 (nI (rr + 1))) L (va_up A 13 f13_79) Q) := hD
                refine lv_aload_n hx hb dX10_read_93 rfl (lv_at hl 1 rfl) ?_
                refine va_get (D := (dC, dI)) (ci := 10) (v := .int x12_104) (C := RX10) (T := TX10) (N := 28) hx hb hts hinX10 hown hK hP 0 rfl rfl 12 (by decide) (hts (.fieldLink RX10 122 "MixedWordsModel" "wrong" "I") (by decide +kernel)) (fun _ h9 => h9) rfl dX10_read_94 ?_
                refine lv_if_ge (tgt := 121) hx hb dX10_read_97 (by decide) (fun c_97_105 => ?_) (fun c_97_105 => ?_)
                · skip
                  refine lv_iconst (v := nI 0) hx hb dX10_read_121 (by decide) ?_
                  refine lv_istore_n (lv' := [(1, .int (nI 0)), (2, .int (nI n_81)), (0, .ref (h 0))]) hx hb dX10_read_122 rfl hl (by decide) rfl (fun ls hl => ?_)
                  refine lv_aload_n hx hb dX10_read_123 rfl (lv_at hl 2 rfl) ?_
                  refine lv_dup hx hb dX10_read_124 rfl ?_
                  refine va_get (D := (dC, dI)) (ci := 10) (v := .int (nI a_82)) (C := RX10) (T := TX10) (N := 28) hx hb hts hinX10 hown hK hP 0 rfl rfl 11 (by decide) (hts (.fieldLink RX10 119 "MixedWordsModel" "at" "I") (by decide +kernel)) (fun _ h9 => h9) rfl dX10_read_125 ?_
                  refine lv_iload_n hx hb dX10_read_128 rfl (lv_at hl 0 rfl) ?_
                  refine lv_if_eq (tgt := 136) hx hb dX10_read_129 (by decide) (fun _ => ?_) (fun c9 => False.elim (by revert c9; decide +kernel))
                  refine lv_iconst (v := nI 0) hx hb dX10_read_136 (by decide) ?_
                  refine lv_iadd hx hb dX10_read_137 ?_
                  refine xt_i (y := nI (a_82 + 0)) (nI_add _ _) ?_
                  refine va_put (D := (dC, dI)) (ci := 10) (v := .int (nI (a_82 + 0))) (ty := .int) (C := RX10) (T := TX10) (N := 28) hx hb hts hinX10 tyX10 tyX10_ok nmX10 hown hK hP hD hS 0 rfl rfl 11 (by decide) (hts (.fieldLink RX10 119 "MixedWordsModel" "at" "I") (by decide +kernel)) (fun _ h9 => h9) rfl (by decide +kernel) rfl rfl (Nat.le_of_ble_eq_true rfl) dX10_read_138 (fun H locs hP hD hS => ?_)
                  have hP : va_P (dC, dI) vwCl (rW h cs (va_up (va_up (va_up (va_up I 15 (nI n_81)) 12 x12_104) 14 (nI (rr + 1))) 11 (nI (a_82 + 0))) L (va_up A 13 f13_79) Q) H := hP
                  have hD : va_D A0 (rW h cs (va_up (va_up (va_up (va_up I 15 (nI n_81)) 12 x12_104) 14 (nI (rr + 1))) 11 (nI (a_82 + 0))) L (va_up A 13 f13_79) Q) := hD
                  refine lv_goto (tgt := 17) hx hb dX10_read_141 (by decide) ?_
                  exact ih_17 0 (rr + 1) n_81 (nI n_81) (a_82 + 0) x12_104 f13_79 (by omega) (by first | assumption | omega) (by first | assumption | omega) (by first | exact (fun _ => ⟨by omega, by decide⟩) | exact (fun h9 => absurd h9 (by omega)) | exact (fun _ => ⟨by omega, by assumption⟩)) (by first | assumption | omega) (by first | exact (fun h9 => absurd h9 (by omega)) | exact (fun _ => ⟨rfl, by omega, by omega⟩)) (by first | exact (fun h9 => absurd h9 (by omega)) | exact (fun _ => by omega)) (by first | exact (fun _ i j hi => absurd hi (by omega)) | exact (fun h9 => absurd h9 hfl) | exact (fun h9 => absurd h9 (Int32.not_lt.mpr (by assumption))) | exact (fun h9 => rd_b hkp9 (fun i j a b => hb17 hm1.2 i j a b) (hrb9 h9) (by omega) (by omega)) | exact (fun h9 => rd_b hkp9 (fun i j a b => absurd a (by omega)) (hrb9 h9) (by omega) (by omega))) _ _ _ hP hD hS (lv_sub hl [2, 0] rfl)
                · skip
                  have hwn := Int32.not_le.mp c_97_105
                  exact absurd (Int32.not_le.mp c_97_105) hfl
  exact cut_17 _ 1 0 0 (I 15) 0 (-1) (A 13) (Nat.lt_succ_self _) (by first | assumption | omega) (by first | assumption | omega) (by first | exact (fun _ => ⟨by omega, by decide⟩) | exact (fun h9 => absurd h9 (by omega)) | exact (fun _ => ⟨by omega, by assumption⟩)) (by first | assumption | omega) (by first | exact (fun h9 => absurd h9 (by omega)) | exact (fun _ => ⟨rfl, by omega, by omega⟩)) (by first | exact (fun h9 => absurd h9 (by omega)) | exact (fun _ => by omega)) (by first | exact (fun _ i j hi => absurd hi (by omega)) | exact (fun h9 => absurd h9 hfl) | exact (fun h9 => absurd h9 (Int32.not_lt.mpr (by assumption))) | exact (fun h9 => rd_b hkp9 (fun i j a b => hb17 hm1.2 i j a b) (hrb9 h9) (by omega) (by omega)) | exact (fun h9 => rd_b hkp9 (fun i j a b => absurd a (by omega)) (hrb9 h9) (by omega) (by omega))) _ _ _ hP hD hS (lv_sub hl [1, 0] rfl)
