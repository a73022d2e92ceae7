/-! THE CLAIM OUT OF ONE WALK OF THE LAW'S BODY. Your part is whole_start (and what it stands on); all else here is the same for every law, but numbers. -/
def R_law : String := "MixedWordsLaw"
def lw_P (b : Addr) (xs : List Int32) (args : Array Value) (s : State) : Prop := args = #[.ref b] ∧ s.IntsAt b xs ∧ xs.length ≤ 2560 ∧ (Jvm.Cond.and given_1 narrow_1).before args s = true
def lw_Q (_ : Array Value) (s : State) (o : Outcome) (t : State) : Prop := o = .returned (some (.int 1)) ∧ Framed s o t [] 600000 7302249
def lw_Z (below : List Frame) (a : Array Value) (s : State) : State → Prop := fun t => ∃ o, t.status = .running ∧ Ended t below o ∧ lw_Q a s o t
/-- the law's own end, with 1 on the stack, nothing written that was there before, its room as the claim has it -/
theorem lw_ret {p : Program} {l : Launch} {e : Env} {s : State} {m : MethodId} {below : List Frame} {meth : Method} {c : Code} {b : Nat} (hx : p.tables.exec = Jvm.exec) (hb : c.code = code) (hr : meth.sig.returnType = ret) (hlocks : meth.locks = false) {pc : Nat} {H : Heap} {ls : Array Slot} (hdg : decode code pc = .ok (.ireturn, 1)) : W p l e room_1 s m #[Value.ref b] below meth c H [] 600000 7302249 (lw_Z below #[Value.ref b] s) (F0 m pc ls [.int 1]) := by
  intro T hT X
  obtain ⟨fs, hret, hrun, hended, hW, hframe⟩ := X.leave (v := some (.int 1)) (hlocks := hlocks) (fun h => by rw [hr] at h; cases h)
  have hmeth' : T.vm.method? m = some meth := X.method'
  refine ⟨T.setFrames fs, ?_, .returned (some (.int 1)), hrun, hended, rfl, ⟨_, rfl⟩, hW, hframe⟩
  jvm_step X.here [X.here.top, hx, hb, hdg, hmeth', hr, ret, narrow_b1]
  (try refine ⟨rfl, ?_⟩); (try refine ⟨rfl, ?_⟩)
  first | (intro acts; rw [hret _ acts rfl rfl rfl]) | rw [hret _ _ rfl rfl rfl]
  exact Steps.refl _
/-- what holds at the law's entry: the machine, the code, the tables' words (any of lw_tbl by 'hts w (by decide +kernel)'), the script of L ints xs at the cell b, what the Statement gives of the start (any of its parts by flat_of_before) -/
def lw_At (p : Program) (s : State) (m : MethodId) (meth : Method) (c : Code) (b L : Nat) (xs : Nat → Int32) : Prop :=
  p.tables.exec = Jvm.exec ∧ c.code = code ∧ meth.sig.returnType = ret ∧ c.maxLocals = 4 ∧ s.vm.findClass R_law = some m.cls ∧ (∀ w ∈ lw_tbl, w.before #[Value.ref b] s = true) ∧ va_X b L xs s s.heap ∧ b < s.heap.size ∧ meth.locks = false ∧ (Jvm.Cond.and given_1 narrow_1).before #[Value.ref b] s = true
theorem law_tys {s : State} {a : Array Value} (h1 : (Cond.arrayClass .int).before a s = true) (h2 : (Cond.arrayClass .long).before a s = true) (h3 : (Cond.arrayClass .byte).before a s = true) (ho : aoA s) : ∃ cs : Nat → ClassId, ∀ (k : Nat) (q : ClassId × FieldType), (tysA cs)[k]? = some q → ArrOfT s q.1 q.2 ∧ va_RA s q.1 q.2 := by
  obtain ⟨c0, k0, m0, f0, g0, e0⟩ := Cond.arrayClass_spec h1
  obtain ⟨c1, k1, m1, f1, g1, e1⟩ := Cond.arrayClass_spec h2
  obtain ⟨c2, k2, m2, f2, g2, e2⟩ := Cond.arrayClass_spec h3
  obtain ⟨m3, c3, k3, a3, g3, e3, f3⟩ := Cond.arrayOver_specA ho.1
  obtain ⟨m4, c4, k4, a4, g4, e4, f4⟩ := Cond.arrayOver_specA ho.2.1
  obtain ⟨m5, c5, k5, a5, i5, g5, e5, f5⟩ := Cond.arrayOver_spec ho.2.2
  refine ⟨fun n => if n = 0 then c0 else if n = 1 then c1 else if n = 2 then c2 else if n = 3 then c3 else if n = 4 then c4 else c5, fun k q hq => ?_⟩
  match k, hq with
  | 0, hq => cases hq; exact ⟨fun N z => ⟨(fun k h => by cases h), k0, g0, m0, e0⟩, f0⟩
  | 1, hq => cases hq; exact ⟨fun N z => ⟨(fun k h => by cases h), k1, g1, m1, e1⟩, f1⟩
  | 2, hq => cases hq; exact ⟨fun N z => ⟨(fun k h => by cases h), k2, g2, m2, e2⟩, f2⟩
  | 3, hq => cases hq; exact ⟨fun N z => ⟨(fun k h => by cases h), k3, g3, m3, e3⟩, f3⟩
  | 4, hq => cases hq; exact ⟨fun N z => ⟨(fun k h => by cases h), k4, g4, m4, e4⟩, f4⟩
  | 5, hq => cases hq; exact ⟨fun N z => ⟨(fun k h => by cases h), k5, g5, m5, e5⟩, k5, m5, g5, e5, a5, f5⟩
  | n + 6, hq => simp [tysA] at hq
section XLW
variable {p : Program} {l : Launch} {e : Env} {R : Room} {s : State} {m : MethodId} {args : Array Value} {below : List Frame} {meth : Method} {c : Code} {H : Heap} {locs : List Loc} {cells slots : Nat} {Q : State → Prop}
variable {cc : ByteArray} {pc : Nat} {ls : Array Slot} {rest : List Value} {A : Nat → Prop}
theorem xa_sld {b L k : Nat} {xs : Nat → Int32} (hexec : p.tables.exec = Jvm.exec) (hb : c.code = cc) (hX : va_X b L xs s s.heap) (hbl : b < s.heap.size) (hbA : ¬ A b) (hS : va_S A s.heap H locs) (hk : k < L) (hL : L < 2147483648) (hdg : decode cc pc = .ok (.iaload, 1))
    (kk : W p l e R s m args below meth c H locs cells slots Q (F0 m (pc + 1) ls (.int (xs k) :: rest))) : W p l e R s m args below meth c H locs cells slots Q (F0 m pc ls (.int (nI k) :: .ref b :: rest)) := by
  refine va_sld hexec hb hX hbl hbA hS (vp_in_nI hk hL) hdg ?_
  rw [nI_clamp (Nat.lt_trans hk hL)]
  exact kk
end XLW
theorem law_nest {s : State} {a : Array Value} (hts : ∀ w ∈ lw_tbl, w.before a s = true) : nestA s := ⟨va_tabs rfl rfl (hts (.methodLinkNest RX9 11 yX3_init "MixedWords") (intab_1 _ (List.mem_of_getElem? (i := 26) rfl))), va_tabs rfl rfl (hts (.methodLinkNest RX9 27 yX7_init "MixedWords") (intab_1 _ (List.mem_of_getElem? (i := 110) rfl))), va_tabs rfl rfl (hts (.methodLinkNest RX9 50 yX2_init "MixedWords") (intab_1 _ (List.mem_of_getElem? (i := 179) rfl))), va_tabs rfl rfl (hts (.methodLinkNest RX9 75 yX5_init "MixedWords") (intab_2 _ (List.mem_of_getElem? (i := 18) rfl))), va_tabs rfl rfl (hts (.methodLinkNest RX1 67 yX9_product "MixedWords") (intab_3 _ (List.mem_of_getElem? (i := 145) rfl))), va_tabs rfl rfl (hts (.methodLinkNest RX2 40 yX9_product "MixedWords") (intab_3 _ (List.mem_of_getElem? (i := 47) rfl))), va_tabs rfl rfl (hts (.methodLinkNest RX3 43 yX9_within "MixedWords") (intab_3 _ (List.mem_of_getElem? (i := 231) rfl))), va_tabs rfl rfl (hts (.methodLinkNest RX6 55 yX9_product "MixedWords") (intab_3 _ (List.mem_of_getElem? (i := 111) rfl))), va_tabs rfl rfl (hts (.methodLinkNest RX6 68 yX9_nearestLetter "MixedWords") (intab_3 _ (List.mem_of_getElem? (i := 119) rfl)))⟩
theorem law_over {s : State} {a : Array Value} (hts : ∀ w ∈ lw_tbl, w.before a s = true) : aoA s := ⟨hts (.arrayOver (.array .int)) (intab_1 _ (List.mem_of_getElem? (i := 31) rfl)), hts (.arrayOver (.array .long)) (intab_1 _ (List.mem_of_getElem? (i := 184) rfl)), hts (.arrayOver (.object "MixedWords$Sheet")) (intab_2 _ (List.mem_of_getElem? (i := 16) rfl))⟩
theorem law_known {s : State} {a : Array Value} (hts : ∀ w ∈ wsL_law, w.before a s = true) : ∃ (dC : Nat → ClassId) (dI : Nat → Nat → Nat), ∀ (k : Nat) (q : vw_C), vwCl[k]? = some q → u_Kn s q.1 q.2.1 q.2.2 (dC k) (dI k) := by
  obtain ⟨c0, iS0, hKn0⟩ := u_known (C := RX0) (T := TX0) (N := 8) (n := 8) hts inlX0 (hts (.instantiable RX0 8) (by decide +kernel))
  obtain ⟨c1, iS1, hKn1⟩ := u_known (C := RX1) (T := TX1) (N := 6) (n := 6) hts inlX1 (hts (.instantiable RX1 6) (by decide +kernel))
  obtain ⟨c2, iS2, hKn2⟩ := u_known (C := RX2) (T := TX2) (N := 5) (n := 5) hts inlX2 (hts (.instantiable RX2 5) (by decide +kernel))
  obtain ⟨c3, iS3, hKn3⟩ := u_known (C := RX3) (T := TX3) (N := 6) (n := 6) hts inlX3 (hts (.instantiable RX3 6) (by decide +kernel))
  obtain ⟨c4, iS4, hKn4⟩ := u_known (C := RX4) (T := TX4) (N := 6) (n := 6) hts inlX4 (hts (.instantiable RX4 6) (by decide +kernel))
  obtain ⟨c5, iS5, hKn5⟩ := u_known (C := RX5) (T := TX5) (N := 3) (n := 3) hts inlX5 (hts (.instantiable RX5 3) (by decide +kernel))
  obtain ⟨c6, iS6, hKn6⟩ := u_known (C := RX6) (T := TX6) (N := 4) (n := 4) hts inlX6 (hts (.instantiable RX6 4) (by decide +kernel))
  obtain ⟨c7, iS7, hKn7⟩ := u_known (C := RX7) (T := TX7) (N := 2) (n := 2) hts inlX7 (hts (.instantiable RX7 2) (by decide +kernel))
  obtain ⟨c8, iS8, hKn8⟩ := u_known (C := RX8) (T := TX8) (N := 6) (n := 6) hts inlX8 (hts (.instantiable RX8 6) (by decide +kernel))
  obtain ⟨c9, iS9, hKn9⟩ := u_known (C := RX9) (T := TX9) (N := 9) (n := 9) hts inlX9 (hts (.instantiable RX9 9) (by decide +kernel))
  obtain ⟨c10, iS10, hKn10⟩ := u_known (C := RX10) (T := TX10) (N := 28) (n := 28) hts inlX10 (hts (.instantiable RX10 28) (by decide +kernel))
  refine ⟨fun k => if k = 0 then c0 else if k = 1 then c1 else if k = 2 then c2 else if k = 3 then c3 else if k = 4 then c4 else if k = 5 then c5 else if k = 6 then c6 else if k = 7 then c7 else if k = 8 then c8 else if k = 9 then c9 else c10, fun k => if k = 0 then iS0 else if k = 1 then iS1 else if k = 2 then iS2 else if k = 3 then iS3 else if k = 4 then iS4 else if k = 5 then iS5 else if k = 6 then iS6 else if k = 7 then iS7 else if k = 8 then iS8 else if k = 9 then iS9 else iS10, ?_⟩
  intro k q hq
  match k, hq with
  | 0, hq => cases hq; exact hKn0
  | 1, hq => cases hq; exact hKn1
  | 2, hq => cases hq; exact hKn2
  | 3, hq => cases hq; exact hKn3
  | 4, hq => cases hq; exact hKn4
  | 5, hq => cases hq; exact hKn5
  | 6, hq => cases hq; exact hKn6
  | 7, hq => cases hq; exact hKn7
  | 8, hq => cases hq; exact hKn8
  | 9, hq => cases hq; exact hKn9
  | 10, hq => cases hq; exact hKn10
  | n + 11, hq => simp [vwCl] at hq
def JS (t : Nat) (I : Nat → Int32) (A : Nat → Nat → Int32) (Q : Nat → Nat → Int64) (G : Nat → Nat → Nat → Int32) (rI : Nat → Int32) (rA : Nat → Nat → Int32) : Prop := JX t (I 120) (I 121) (I 122) (I 123) (I 144) (I 145) (I 146) (I 151) (A 140) (A 141) (A 142) (A 143) (A 136) (A 150) (G 0) (rI 0) (rI 1) (rI 2) (rI 4) (rI 5) (rI 10) (rA 3) (rA 6) (rA 7) (rA 8) (rA 9) (rA 26) ∧ S4 (I 220) (I 224) (I 221) (I 225) (I 222) (I 226) (I 223) (I 227) (rA 25) (rA 26) ∧ RelQ (Q 228) (Q 229) (Q 230) (Q 231) (rA 27) ∧ CC (I 120) (I 121) (I 122) (I 123) (I 173) (I 174) (I 212) (I 213) (A 136) (A 170) (A 171) (G 0) (G 2) (G 3)
theorem JS_0 : JS 0 fI fA fQ fG gI gA := by
  refine ⟨⟨2, 2, 2, 1, 0, 0, 0, 0, ⟨⟨rfl, by decide, by decide⟩, ⟨rfl, by decide, by decide⟩, ⟨rfl, Or.inl rfl⟩, ⟨rfl, by decide⟩, ⟨rfl, by decide⟩, ⟨rfl, rfl, by decide⟩, fun k hk => absurd hk (by omega), ⟨rfl, by decide⟩⟩, ⟨⟨rfl, by decide, by decide⟩, ⟨rfl, by decide, by decide⟩, ⟨rfl, Or.inl rfl⟩, ⟨rfl, rfl, by decide⟩, fun k hk => absurd hk (by omega), ⟨rfl, by decide⟩, ?_, fun i hi => ⟨0, by decide, rfl⟩⟩, ?_, relA_0, relP_0, ?_⟩, ⟨?_, ?_, ?_, ?_⟩, ?_, ⟨⟨by decide, by decide, fun q => absurd q (by decide)⟩, ⟨by decide, by decide, fun q => absurd q (by decide)⟩, ⟨by decide, by decide, fun q => absurd q (by decide)⟩⟩⟩
  · intro i j hi hj
    show -9 ≤ (0 : Int32).toInt ∧ (0 : Int32).toInt ≤ 9
    decide
  · intro i j hi hj
    unfold atF
    split <;> rfl
  · intro i hi
    show -999 ≤ (0 : Int32).toInt ∧ (0 : Int32).toInt ≤ 999
    decide
  · exact ⟨0, by decide, rfl, Or.inl ⟨rfl, by decide +kernel⟩⟩
  · exact ⟨0, by decide, rfl, Or.inl ⟨rfl, by decide +kernel⟩⟩
  · exact ⟨0, by decide, rfl, Or.inl ⟨rfl, by decide +kernel⟩⟩
  · exact ⟨0, by decide, rfl, Or.inl ⟨rfl, by decide +kernel⟩⟩
  · intro t ht
    exact ⟨rfl, rfl, rfl, rfl⟩
theorem lp_cmp {N0 t : Nat} (hN : N0 ≤ 2560) (ht : 5 * t ≤ 3000) : (nI N0 - nI 5 < nI (5 * t)) ↔ N0 < 5 * t + 5 := by
  have e : (nI N0 - nI 5).toInt = (N0 : Int) - 5 := by
    rw [Int32.toInt_sub, nI_toInt (by omega), nI_toInt (by omega)]
    exact Int.bmod_eq_of_le (by omega) (by omega)
  rw [Int32.lt_iff_toInt_lt, e, nI_toInt (by omega)]
  omega
