/-! ===== more rows of my own: what a constructor makes ===== -/
theorem va_RA.inj {U : State} {c1 c2 : ClassId} {ty : FieldType} (h1 : va_RA U c1 ty) (h2 : va_RA U c2 ty) : c1 = c2 := by
  cases ty
  case object C =>
    obtain ⟨-, -, -, -, -, e1⟩ := h1
    obtain ⟨-, -, -, -, -, e2⟩ := h2
    exact Option.some.inj (e1.symm.trans e2)
  all_goals exact Option.some.inj (Eq.trans (Eq.symm h1) h2)
def adr : List (Nat × Nat) → Nat → Nat
  | [], _ => 0
  | (k, a) :: t, n => bif Nat.beq n k then a else adr t n
theorem rowsF {g r : Nat → Nat} {n b : Nat} (h : ∀ i, i < n → r i = g (i + b)) : (fun i => if i < n then some (r i) else none) = (fun i => if i < n then some (g (i + b)) else none) := by
  funext i
  by_cases hi : i < n
  · rw [if_pos hi, if_pos hi, h i hi]
  · rw [if_neg hi, if_neg hi]
theorem rowsG {g' g : Nat → Nat} {n b : Nat} (h : ∀ i, i < n → g' (i + b) = g (i + b)) : (fun i => if i < n then some (g' (i + b)) else none) = (fun i => if i < n then some (g (i + b)) else none) := by
  funext i
  by_cases hi : i < n
  · rw [if_pos hi, if_pos hi, h i hi]
  · rw [if_neg hi, if_neg hi]
theorem sh4F {a0 a1 a2 a3 : Nat} {g : Nat → Nat} (h0 : a0 = g 110) (h1 : a1 = g 111) (h2 : a2 = g 112) (h3 : a3 = g 113) : va_up (va_up (va_up (va_up (fun _ => none) 0 (some a0)) 1 (some a1)) 2 (some a2)) 3 (some a3) = (fun i => if i < 4 then some (g (i + 110)) else none) := by
  subst h0 h1 h2 h3
  funext i
  rcases i with _ | _ | _ | _ | i
  · rfl
  · rfl
  · rfl
  · rfl
  · rw [if_neg (by omega)]
    simp [va_up]
def aoA (U : State) : Prop := va_Nw (.arrayOver (.array .int)) U ∧ va_Nw (.arrayOver (.array .long)) U ∧ va_Nw (.arrayOver (.object "MixedWords$Sheet")) U
theorem aoW {t : FieldType} {u U : State} (hvm : u.vm.Alike U.vm) (h : va_Nw (.arrayOver t) u) : va_Nw (.arrayOver t) U := by
  have h2 := Cond.overAtom_setVm (args := #[]) (s := u) (vm' := U.vm) hvm (.arrayOver t) rfl h
  unfold va_Nw
  unfold Cond.before Cond.holds at h2 ⊢
  simp only [Cond.value] at h2 ⊢
  exact h2
theorem aoA.warm {u U : State} (hvm : u.vm.Alike U.vm) (h : aoA u) : aoA U := ⟨aoW hvm h.1, aoW hvm h.2.1, aoW hvm h.2.2⟩
def xPreI (D : va_G) (ws : va_W) (tys : List (ClassId × FieldType)) (sz : Nat) : State → Prop := fun U => xPre D ws tys sz U ∧ aoA U
theorem xPreI_blind {D : va_G} {ws : va_W} {tys : List (ClassId × FieldType)} {sz : Nat} {av : List Value} : FrameBlind (va_Pc av (xPreI D ws tys sz)) := fun a U g mk q => by
  obtain ⟨q0, q1, q2⟩ := q
  obtain ⟨q3, q4⟩ := xPre_blind a U g mk ⟨q0, q1⟩
  exact ⟨q3, q4, aoA.warm (u := U) (U := U.calling g mk a) (Vm.Alike.refl U.vm) q2⟩
theorem xpI {s : State} {H : Heap} {D : va_G} {A : Nat → Prop} {tys : List (ClassId × FieldType)} {ws wc : va_W} (hP : va_P D vwCl ws H) (hD : va_D A ws) (hK : va_K D vwCl tys s) (hN : nestA s) (hO : aoA s) (isC : List Nat) (hC : isC.map (fun i => ws[i]?) = wc.map some) (hn : va_nd isC = true) (As : List Value) : PreS s H (va_Pc As (xPreI D wc tys H.size)) As :=
  ⟨xPreI_blind, fun U hU hW => by
    obtain ⟨h1, h2⟩ := (xpS hP hD hK hN isC hC hn As).2 U hU hW
    exact ⟨h1, h2, aoA.warm hW.alike hO⟩⟩
section XK3
variable {p : Program} {l : Launch} {e : Env} {R : Room} {s : State} {m : MethodId} {args : Array Value} {below : List Frame} {meth : Method} {c : Code} {H : Heap} {locs : List Loc} {cells slots : Nat} {Q : State → Prop}
variable {cc : ByteArray} {pc : Nat} {ls : Array Slot} {rest : List Value} {D : va_G} {A : Nat → Prop} {a : Nat} {tys : List (ClassId × FieldType)} {ws : va_W}
theorem xn_newa {atype : ArrayType} {ty : FieldType} {cA : ClassId} {N' : Nat} {a0 : vp_A} {n : Int32} (hexec : p.tables.exec = Jvm.exec) (hb : c.code = cc) (harr : (Cond.arrayClass (newarray.typeOf atype)).before args s = true) (hty : newarray.typeOf atype = ty) (hK : va_K D vwCl tys s) (hP : va_P D vwCl ws H) (hD : va_D A ws) (hS : va_S A s.heap H locs) (hA : ∀ q, s.heap.size ≤ q → A q) (t0 : Nat) (ht : tys[t0]? = some (cA, ty))
    (ha : ∀ cA : ClassId, vp_cell cA a0 = arrV cA N' (fun _ => defaultValue ty)) (hn : ¬ n < 0) (hN : n.toNatClampNeg = N') (hbytes : N' * componentBytes ty ≤ 536870912) (hcells : cells + 1 ≤ R.cells) (hslots : slots + N' ≤ R.slots) (hdg : decode cc pc = .ok (.newarray atype, 2))
    (kk : ∀ (q : Nat) (H1 : Heap), va_P D vwCl (ws ++ [(q, .inl (cA, a0))]) H1 → va_D A (ws ++ [(q, .inl (cA, a0))]) → va_S A s.heap H1 locs → W p l e R s m args below meth c H1 locs (cells + 1) (slots + N') Q (F0 m (pc + 2) ls (.ref q :: rest))) : W p l e R s m args below meth c H locs cells slots Q (F0 m pc ls (.int n :: rest)) := by
  refine va_newa hexec hb harr hty hK hP hD hS hA ha hn hN hbytes hcells hslots hdg fun q cB H1 hK' hP' hD' hS' => ?_
  have e : cB = cA := va_RA.inj (hK'.2 tys.length (cB, ty) (by simp)).2 (hK.2 t0 _ ht).2
  rw [e] at hP' hD'
  exact kk q H1 hP' hD' hS'
theorem xn_newq {own C : String} {index : Nat} {cA : ClassId} {N' : Nat} {n : Int32} (hexec : p.tables.exec = Jvm.exec) (hb : c.code = cc) (hown : s.vm.findClass own = some m.cls) (hclink : (Cond.classLink own index C).before args s = true) (hover : va_AO C s) (hK : va_K D vwCl tys s) (hP : va_P D vwCl ws H) (hD : va_D A ws) (hS : va_S A s.heap H locs) (hA : ∀ q, s.heap.size ≤ q → A q) (t0 : Nat) (ht : tys[t0]? = some (cA, .object C))
    (hn : ¬ n < 0) (hN : n.toNatClampNeg = N') (hbytes : N' * 4 ≤ 536870912) (hcells : cells + 1 ≤ R.cells) (hslots : slots + N' ≤ R.slots) (hdg : decode cc pc = .ok (.anewarray index, 3))
    (kk : ∀ (q : Nat) (H1 : Heap), va_P D vwCl (ws ++ [(q, .inl (cA, N', .inr (.inr (.inr (.inr (fun _ => none))))))]) H1 → va_D A (ws ++ [(q, .inl (cA, N', .inr (.inr (.inr (.inr (fun _ => none))))))]) → va_S A s.heap H1 locs → W p l e R s m args below meth c H1 locs (cells + 1) (slots + N') Q (F0 m (pc + 3) ls (.ref q :: rest))) : W p l e R s m args below meth c H locs cells slots Q (F0 m pc ls (.int n :: rest)) := by
  refine va_newq hexec hb hown hclink hover hK hP hD hS hA hn hN hbytes hcells hslots hdg fun q cB H1 hK' hP' hD' hS' => ?_
  have e : cB = cA := va_RA.inj (hK'.2 tys.length (cB, .object C) (by simp)).2 (hK.2 t0 _ ht).2
  rw [e] at hP' hD'
  exact kk q H1 hP' hD' hS'
theorem xn_mna {own : String} {index : Nat} {ty : FieldType} {cy cA : ClassId} {n k : Int32} {N' K' : Nat} {z : vp_A} (hexec : p.tables.exec = Jvm.exec) (hb : c.code = cc) (hown : s.vm.findClass own = some m.cls) (hclink : (Cond.classLink own index ("[" ++ (FieldType.array ty).toString)).before args s = true) (hover : va_AOA ty s) (harr : (Cond.arrayClass ty).before args s = true) (hcy : s.vm.findClass (FieldType.array ty).toString = some cy)
    (hK : va_K D vwCl tys s) (hP : va_P D vwCl ws H) (hD : va_D A ws) (hS : va_S A s.heap H locs) (hA : ∀ q, s.heap.size ≤ q → A q) (t1 : Nat) (ht1 : tys[t1]? = some (cA, .array ty)) (hn : ¬ n < 0) (hk : ¬ k < 0) (hN : n.toNatClampNeg = N') (hM : k.toNatClampNeg = K')
    (hb1 : N' * 4 ≤ 536870912) (hb2 : K' * componentBytes ty ≤ 536870912) (hb3 : K' ≤ 536870912) (hdf : fits ty (defaultValue ty) = true) (hdd : (defaultValue ty).isDefault = true) (hcells : cells + (1 + N') ≤ R.cells) (hslots : slots + (N' + N' * K') ≤ R.slots) (hz : ∀ c : ClassId, Jvm.Free.Multi.innerC c K' (defaultValue ty) = vp_cell c z) (hdg : decode cc pc = .ok (.multianewarray index 2, 4))
    (kk : ∀ (q : Nat) (r : Nat → Nat) (H1 : Heap), va_P D vwCl (ws ++ ([(q, .inl (cA, N', .inr (.inr (.inr (.inr (fun i => if i < N' then some (r i) else none))))))] ++ (List.range N').map (fun i => (r i, .inl (cy, z))))) H1 → va_D A (ws ++ ([(q, .inl (cA, N', .inr (.inr (.inr (.inr (fun i => if i < N' then some (r i) else none))))))] ++ (List.range N').map (fun i => (r i, .inl (cy, z))))) → va_S A s.heap H1 locs →
      W p l e R s m args below meth c H1 locs (cells + 1 + N') (slots + N' + N' * K') Q (F0 m (pc + 4) ls (.ref q :: rest))) : W p l e R s m args below meth c H locs cells slots Q (F0 m pc ls (.int k :: .int n :: rest)) := by
  have hPP : va_P D vwCl (ws ++ va_pl [] (fun _ => (.inl (cy, z) : va_E))) H := by
    rw [show va_pl [] (fun _ => (.inl (cy, z) : va_E)) = [] from rfl, List.append_nil]
    exact hP
  have hDD : va_D A (ws ++ va_pl [] (fun _ => (.inl (cy, z) : va_E))) := by
    rw [show va_pl [] (fun _ => (.inl (cy, z) : va_E)) = [] from rfl, List.append_nil]
    exact hD
  refine va_mna hexec hb hown hclink hover harr hcy hK hPP hDD hS hA hn hk hN hM hb1 hb2 hb3 hdf hdd hcells hslots hz hdg fun q r cB H1 hi hnl hK' hP' hD' hS' => ?_
  have e : cB = cA := va_RA.inj (hK'.2 tys.length (cB, .array ty) (by simp)).2 (hK.2 t1 _ ht1).2
  have ef : va_pl ([] ++ (List.range N').map r) (vr_up (fun _ => (.inl (cy, z) : va_E)) ((List.range N').map r) (.inl (cy, z))) = (List.range N').map (fun i => (r i, .inl (cy, z))) := by
    unfold va_pl
    rw [List.nil_append, List.map_map]
    apply List.map_congr_left
    intro i _
    simp [vr_up]
  rw [e, ef, List.append_assoc] at hP' hD'
  exact kk q r H1 hP' hD' hS'
theorem xa_alen {cA : ClassId} {x : vp_A} {ty : FieldType} {n : Nat} (hexec : p.tables.exec = Jvm.exec) (hb : c.code = cc) (hK : va_K D vwCl tys s) (hP : va_P D vwCl ws H) (q0 t0 : Nat) (ha : ws[q0]? = some (a, .inl (cA, x))) (ht : tys[t0]? = some (cA, ty)) (hv : x.1 = n) (hdg : decode cc pc = .ok (.arraylength, 1))
    (kk : W p l e R s m args below meth c H locs cells slots Q (F0 m (pc + 1) ls (.int (nI n) :: rest))) : W p l e R s m args below meth c H locs cells slots Q (F0 m pc ls (.ref a :: rest)) :=
  va_alen hexec hb hK hP q0 t0 ha ht (by rw [hv]; rfl) hdg kk
theorem set_same {x : Nat × va_E} {q0 : Nat} (h : ws[q0]? = some x) : ws.set q0 x = ws := by
  apply List.ext_getElem?
  intro i
  rw [List.getElem?_set]
  by_cases e : q0 = i
  · subst e
    rw [if_pos rfl]
    have hl : q0 < ws.length := (List.getElem?_eq_some_iff.mp h).1
    rw [if_pos hl, h]
  · rw [if_neg e]
theorem upd_same {f : Nat → Int32} {k : Nat} {x : Int32} (h : f k = x) : upd f k x = f := by
  funext j
  by_cases e : j = k
  · subst e
    rw [pk_us, h]
  · rw [pk_un e]
theorem updL_same {f : Nat → Int64} {k : Nat} {x : Int64} (h : f k = x) : vp_updL f k x = f := by
  funext j
  by_cases e : j = k
  · subst e
    rw [pk_uLs, h]
  · rw [pk_uLn e]
theorem cpy_same {f g : Nat → Int32} {sp dp n : Nat} (h : ∀ i, i < n → f (sp + i) = g (dp + i)) : va_cpy f g sp dp n = g := by
  funext j
  by_cases e : dp ≤ j ∧ j < dp + n
  · rw [pk_cpy_in e.1 e.2, h _ (by omega), show dp + (j - dp) = j by omega]
  · rw [pk_cpy_out (by omega)]
theorem xa_iastS {k n : Nat} {cA : ClassId} {f : Nat → Int32} {x : Int32} (hexec : p.tables.exec = Jvm.exec) (hb : c.code = cc) (hK : va_K D vwCl tys s) (hP : va_P D vwCl ws H) (hD : va_D A ws) (hS : va_S A s.heap H locs) (q0 t0 : Nat) (ha : ws[q0]? = some (a, .inl (cA, n, .inl f))) (ht : tys[t0]? = some (cA, .int)) (hk : k < n) (hn : n < 2147483648) (hf : f k = x) (hdg : decode cc pc = .ok (.iastore, 1))
    (kk : ∀ (H1 : Heap) (locs1 : List Loc), va_P D vwCl ws H1 → va_D A ws → va_S A s.heap H1 locs1 → W p l e R s m args below meth c H1 locs1 cells slots Q (F0 m (pc + 1) ls rest)) : W p l e R s m args below meth c H locs cells slots Q (F0 m pc ls (.int x :: .int (nI k) :: .ref a :: rest)) := by
  refine xa_iast hexec hb hK hP hD hS q0 t0 ha ht hk hn hdg fun H1 locs1 hP1 hD1 hS1 => ?_
  rw [upd_same hf, set_same ha] at hP1
  exact kk H1 locs1 hP1 hD hS1
theorem xa_lastS {k n : Nat} {cA : ClassId} {f : Nat → Int64} {x : Int64} (hexec : p.tables.exec = Jvm.exec) (hb : c.code = cc) (hK : va_K D vwCl tys s) (hP : va_P D vwCl ws H) (hD : va_D A ws) (hS : va_S A s.heap H locs) (q0 t0 : Nat) (ha : ws[q0]? = some (a, .inl (cA, n, .inr (.inl f)))) (ht : tys[t0]? = some (cA, .long)) (hk : k < n) (hn : n < 2147483648) (hf : f k = x) (hdg : decode cc pc = .ok (.lastore, 1))
    (kk : ∀ (H1 : Heap) (locs1 : List Loc), va_P D vwCl ws H1 → va_D A ws → va_S A s.heap H1 locs1 → W p l e R s m args below meth c H1 locs1 cells slots Q (F0 m (pc + 1) ls rest)) : W p l e R s m args below meth c H locs cells slots Q (F0 m pc ls (.long x :: .int (nI k) :: .ref a :: rest)) := by
  refine xa_last hexec hb hK hP hD hS q0 t0 ha ht hk hn hdg fun H1 locs1 hP1 hD1 hS1 => ?_
  rw [updL_same hf, set_same ha] at hP1
  exact kk H1 locs1 hP1 hD hS1
theorem xa_copyS {own : String} {index a0 : Nat} {n0 n1 sp dp k : Nat} {f g : Nat → Int32} (hexec : p.tables.exec = Jvm.exec) (hb : c.code = cc) (hml : c.maxLocals = ls.size) (hown : s.vm.findClass own = some m.cls) (hlink : (Cond.methodLink own index arraycopyName).before args s = true) (hnat : (Cond.native arraycopyName).before args s = true) (hstat : (Cond.static arraycopyName).before args s = true) (hini : (Cond.initialized "java/lang/System").before args s = true)
    {cs : Nat → ClassId} (hK : va_K D vwCl (tysA cs) s) (hP : va_P D vwCl ws H) (hD : va_D A ws) (hS : va_S A s.heap H locs) (q0 q1 : Nat) (ha0 : ws[q0]? = some (a0, .inl (cs 0, n0, .inl f))) (ha1 : ws[q1]? = some (a, .inl (cs 0, n1, .inl g))) (h4 : sp + k ≤ n0) (h5 : dp + k ≤ n1) (h6 : n0 < 2147483648) (h7 : n1 < 2147483648) (hf : ∀ i, i < k → f (sp + i) = g (dp + i))
    (hframes : 1 ≤ R.frames) (hlocals : (rest.map fun v => v.category).sum + (nativeFrameWords "java/lang/System" "arraycopy" 5 + 11) ≤ R.locals) (hdg : decode cc pc = .ok (.invokestatic index, 3))
    (kk : ∀ (H1 : Heap) (locs1 : List Loc), va_P D vwCl ws H1 → va_D A ws → va_S A s.heap H1 locs1 → W p l e R s m args below meth c H1 locs1 cells slots Q (F0 m (pc + 3) ls rest)) : W p l e R s m args below meth c H locs cells slots Q (F0 m pc ls (.int (nI k) :: .int (nI dp) :: .ref a :: .int (nI sp) :: .ref a0 :: rest)) := by
  refine xa_copy (cA := cs 0) hexec hb hml hown hlink hnat hstat hini hK hP hD hS q0 q1 ha0 ha1 h4 h5 h6 h7 hframes hlocals hdg fun H1 locs1 hP1 hD1 hS1 => ?_
  rw [cpy_same hf, set_same ha1] at hP1
  exact kk H1 locs1 hP1 hD hS1
theorem xa_aast {k n v : Nat} {cA : ClassId} {r : vw_C} {vs : List Value} {f : Nat → Option Nat} (hexec : p.tables.exec = Jvm.exec) (hb : c.code = cc) (hK : va_K D vwCl tys s) (hP : va_P D vwCl ws H) (hD : va_D A ws) (hS : va_S A s.heap H locs) (q0 t0 qk ci : Nat) (ha : ws[q0]? = some (a, .inl (cA, n, .inr (.inr (.inr (.inr f)))))) (ht : tys[t0]? = some (cA, .object r.1)) (hv : ws[qk]? = some (v, .inr (ci, vs))) (hc : vwCl[ci]? = some r) (hk : k < n) (hn : n < 2147483648) (hdg : decode cc pc = .ok (.aastore, 1))
    (kk : ∀ (H1 : Heap) (locs1 : List Loc), va_P D vwCl (ws.set q0 (a, .inl (cA, n, .inr (.inr (.inr (.inr (va_up f k (some v)))))))) H1 → va_D A (ws.set q0 (a, .inl (cA, n, .inr (.inr (.inr (.inr (va_up f k (some v)))))))) → va_S A s.heap H1 locs1 → W p l e R s m args below meth c H1 locs1 cells slots Q (F0 m (pc + 1) ls rest)) : W p l e R s m args below meth c H locs cells slots Q (F0 m pc ls (.ref v :: .int (nI k) :: .ref a :: rest)) := by
  refine va_astq hexec hb hK hP hD hS q0 t0 qk ci ha ht hv hc (vp_in_nI hk hn) hdg ?_
  rw [nI_clamp (Nat.lt_trans hk hn)]
  exact kk
end XK3
