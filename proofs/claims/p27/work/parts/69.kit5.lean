section XFD
variable {p : Program} {l : Launch} {e : Env} {R : Room} {s : State} {m : MethodId} {args : Array Value} {below : List Frame} {meth : Method} {c : Code} {H : Heap} {locs : List Loc} {cells slots : Nat} {Q : State → Prop}
variable {cc : ByteArray} {pc : Nat} {ls : Array Slot} {rest : List Value}
theorem xa_fdiv {own : String} {index : Nat} {a b : Int64} (hexec : p.tables.exec = Jvm.exec) (hb : c.code = cc) (hml : c.maxLocals = ls.size) (hown : s.vm.findClass own = some m.cls) (hlink : (Cond.methodLink own index Jvm.Free.JP.Math_floorDiv_JJ.yN).before args s = true) (hstat : (Cond.static Jvm.Free.JP.Math_floorDiv_JJ.yN).before args s = true) (hini : (Cond.initialized "java/lang/Math").before args s = true) (hcode : (Cond.code Jvm.Free.JP.Math_floorDiv_JJ.yN Jvm.Free.JP.Math_floorDiv_JJ.yB 6 (some .long)).before args s = true)
    (hframes : 1 ≤ R.frames) (hlocals : (rest.map fun v => v.category).sum + 17 ≤ R.locals) (hc : cells ≤ R.cells) (hs : slots ≤ R.slots) (hne : b ≠ 0) (hdg : decode cc pc = .ok (.invokestatic index, 3))
    (kk : W p l e R s m args below meth c H locs cells slots Q (F0 m (pc + 3) ls (.long (Jvm.Free.JP.Math_floorDiv_JJ.val a b) :: rest))) : W p l e R s m args below meth c H locs cells slots Q (F0 m pc ls (.long b :: .long a :: rest)) := by
  intro T hT X
  have htab : (Jvm.Free.XT.tabOf Jvm.Free.JP.Math_floorDiv_JJ.yN Jvm.Free.JP.Math_floorDiv_JJ.yB 6 (some .long) []).before args s = true := by
    show (Cond.and _ _).before args s = true
    rw [Cond.before_and, hcode, Bool.true_and]
    exact hini
  obtain ⟨v, T', X', ⟨e1, e2⟩, st⟩ := Jvm.Stand.callS X hexec (Jvm.Free.JP.Math_floorDiv_JJ.law l a b) hown (fun w hw => by
      simp only [Jvm.Free.XT.staticW, List.mem_cons, List.not_mem_nil, or_false] at hw
      rcases hw with rfl | rfl
      · exact hlink
      · exact hstat) htab (W := (rest.map fun v => v.category).sum) hframes (by show _ + (6 + 11) + 0 ≤ _; omega) hc hs (g := F0 m pc ls (.long b :: .long a :: rest)) rfl (by rw [hml]) (Steps.refl _) (argsL := [.long a, .long b]) (rest := rest) rfl rfl (by show 2 * 0 + _ ≤ _; omega) (by rw [hb]; exact hdg) ⟨rfl, hne⟩
  subst e1
  rw [List.append_nil] at X'
  obtain ⟨t, a1, b1⟩ := kk T' (e2.trans hT) X'
  exact ⟨t, st.trans a1, b1⟩
end XFD

