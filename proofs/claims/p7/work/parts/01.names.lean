/-! ===== BEGIN words of one list among another's, by their places ===== -/
theorem goodIn_r {big : List Cond} (ws : List Cond) (ps : List Nat) (hp : ws = ps.filterMap (fun i => big[i]?)) (h : ws.all goodWord = true) : GoodIn big ws := by
  intro w hw
  have h1 := List.all_eq_true.mp h w hw
  rw [hp] at hw
  obtain ⟨i, -, hi⟩ := List.mem_filterMap.mp hw
  have hm : w ∈ big := by first | exact List.mem_of_getElem? hi | exact List.getElem?_mem hi
  exact ⟨hm, good_of_word h1⟩
theorem goodIn_app {big a b : List Cond} (ha : GoodIn big a) (hb : GoodIn big b) : GoodIn big (a ++ b) := fun w h => (List.mem_append.mp h).elim (ha w) (hb w)
theorem goodIn_ca {big a b : List Cond} {c : Cond} (ha : GoodIn big (c :: a)) (hb : GoodIn big b) : GoodIn big (c :: (a ++ b)) := fun w h => (List.mem_cons.mp h).elim (fun e => ha w (List.mem_cons.mpr (Or.inl e))) (fun h => (List.mem_append.mp h).elim (fun h => ha w (List.mem_cons.mpr (Or.inr h))) (hb w))
theorem goodIn_sub {big ws : List Cond} (hm : ∀ w ∈ ws, w ∈ big) (h : ws.all goodWord = true) : GoodIn big ws := fun w hw => ⟨hm w hw, good_of_word (List.all_eq_true.mp h w hw)⟩
/-! ===== END ===== -/

/-- an array class whose elements are arrays of t, as the tables have it -/
def va_AOA (t : FieldType) (U : State) : Prop := (Cond.arrayOver (.array t)).before #[] U = true
theorem va_AOA.use {t : FieldType} {A : Array Value} {U : State} (h : va_AOA t U) : (Cond.arrayOver (.array t)).before A U = true := h
theorem va_AOA.of {t : FieldType} {A : Array Value} {U : State} (h : (Cond.arrayOver (.array t)).before A U = true) : va_AOA t U := h
/-! ===== BEGIN new T[n][m]: the outer array a place, the inner ones among the pooled ===== -/
/-- f, but v at every address of l -/
def vr_up {α : Type} (f : Nat → α) (l : List Nat) (v : α) : Nat → α := fun a => if a ∈ l then v else f a
theorem vr_up_in {α : Type} {f : Nat → α} {l : List Nat} {v : α} {a : Nat} (h : a ∈ l) : vr_up f l v a = v := if_pos h
theorem vr_up_ne {α : Type} {f : Nat → α} {l : List Nat} {v : α} {a : Nat} (h : a ∉ l) : vr_up f l v a = f a := if_neg h
theorem vr_rows {L l : List Nat} {f : Nat → va_E} {e : va_E} (h : ∀ a, a ∈ l → a ∉ L) : va_pl L f ++ l.map (fun a => (a, e)) = va_pl (L ++ l) (vr_up f l e) := by
  unfold va_pl
  rw [List.map_append]
  congr 1
  · apply List.map_congr_left
    intro a ha
    rw [vr_up_ne (fun q => h a q ha)]
  · apply List.map_congr_left
    intro a ha
    rw [vr_up_in ha]
theorem vr_lay {X rows : va_W} {x : Nat × va_E} {pl : va_W} {D : va_G} {cl : List vw_C} {H : Heap} (hP : va_P D cl (((X ++ pl) ++ [x]) ++ rows) H) : va_P D cl ((X ++ [x]) ++ (pl ++ rows)) H := by
  rw [List.append_assoc (X ++ pl)] at hP
  have h := va_P.swap hP
  rw [← List.append_assoc X] at h
  have h2 := va_P.swap h
  rw [List.append_assoc (X ++ [x])] at h2
  exact h2
theorem vr_layD {X rows : va_W} {x : Nat × va_E} {pl : va_W} {A : Nat → Prop} (hD : va_D A (((X ++ pl) ++ [x]) ++ rows)) : va_D A ((X ++ [x]) ++ (pl ++ rows)) := by
  rw [List.append_assoc (X ++ pl)] at hD
  have h := va_D.swap hD
  rw [← List.append_assoc X] at h
  have h2 := va_D.swap h
  rw [List.append_assoc (X ++ [x])] at h2
  exact h2
theorem vr_outer (c : ClassId) (N h0 : Nat) : ∀ i : Nat, Jvm.Free.Multi.outerC c N h0 i = arrV c N (fun j => va_rf (if j < i then some (h0 + 1 + j) else none))
  | 0 => by
    show ({ cls := c, slots := Array.replicate N .null, vm := .none } : Cell) = _
    rw [arrV_new]
    refine congrArg (arrV c N) (funext fun j => ?_)
    simp [va_rf]
  | i + 1 => by
    show (Jvm.Free.Multi.outerC c N h0 i).setSlot i (.ref (h0 + 1 + i)) = _
    rw [vr_outer c N h0 i, arrV_store]
    refine congrArg (arrV c N) (funext fun j => ?_)
    by_cases e : j = i
    · subst e
      simp [updV, va_rf]
    · by_cases h : j < i
      · simp [updV, e, h, Nat.lt_succ_of_lt h]
      · simp [updV, e, h, show ¬ j < i + 1 by omega]
section VGM
variable {p : Program} {l : Launch} {e : Env} {R : Room} {s : State} {m : MethodId} {args : Array Value} {below : List Frame} {meth : Method} {c : Code} {H : Heap} {locs : List Loc} {cells slots : Nat} {Q : State → Prop}
variable {cc : ByteArray} {pc : Nat} {ls : Array Slot} {rest : List Value} {D : va_G} {cl : List vw_C} {A : Nat → Prop} {a : Nat} {tys : List (ClassId × FieldType)} {ws : va_W} {H0 : Heap}
theorem va_mna {X : va_W} {L : List Nat} {f : Nat → va_E} {cc : ByteArray} (hexec : p.tables.exec = Jvm.exec) (hb : c.code = cc) {own : String} {index : Nat} {ty : FieldType} {cy : ClassId} (hown : s.vm.findClass own = some m.cls) (hclink : (Cond.classLink own index ("[" ++ (FieldType.array ty).toString)).before args s = true) (hover : va_AOA ty s) (harr : (Cond.arrayClass ty).before args s = true) (hcy : s.vm.findClass (FieldType.array ty).toString = some cy)
    (hK : va_K D cl tys s) (hP : va_P D cl (X ++ va_pl L f) H) (hD : va_D A (X ++ va_pl L f)) (hS : va_S A H0 H locs) (hA : ∀ q, H0.size ≤ q → A q) {n k : Int32} {N' K' : Nat} {z : vp_A} (hn : ¬ n < 0) (hk : ¬ k < 0) (hN : n.toNatClampNeg = N') (hM : k.toNatClampNeg = K')
    (hb1 : N' * 4 ≤ 536870912) (hb2 : K' * componentBytes ty ≤ 536870912) (hb3 : K' ≤ 536870912) (hdf : fits ty (defaultValue ty) = true) (hdd : (defaultValue ty).isDefault = true) (hcells : cells + (1 + N') ≤ R.cells) (hslots : slots + (N' + N' * K') ≤ R.slots) (hz : ∀ c : ClassId, Jvm.Free.Multi.innerC c K' (defaultValue ty) = vp_cell c z) (hdg : decode cc pc = .ok (.multianewarray index 2, 4))
    (kk : ∀ (q : Nat) (r : Nat → Nat) (cA : ClassId) (H1 : Heap), (∀ i j : Nat, i < N' → j < N' → r i = r j → i = j) → (∀ i : Nat, i < N' → r i ∉ L) → va_K D cl (tys ++ [(cA, .array ty)]) s →
      va_P D cl ((X ++ [(q, .inl (cA, N', .inr (.inr (.inr (.inr (fun i => if i < N' then some (r i) else none))))))]) ++ va_pl (L ++ (List.range N').map r) (vr_up f ((List.range N').map r) (.inl (cy, z)))) H1 → va_D A ((X ++ [(q, .inl (cA, N', .inr (.inr (.inr (.inr (fun i => if i < N' then some (r i) else none))))))]) ++ va_pl (L ++ (List.range N').map r) (vr_up f ((List.range N').map r) (.inl (cy, z)))) → va_S A H0 H1 locs →
      W p l e R s m args below meth c H1 locs (cells + 1 + N') (slots + N' + N' * K') Q (F0 m (pc + 4) ls (.ref q :: rest))) : W p l e R s m args below meth c H locs cells slots Q (F0 m pc ls (.int k :: .int n :: rest)) := by
  subst hN
  subst hM
  intro T hT Xs
  obtain ⟨vm₁, cA, comp, -, fA, fC, hO, -, X', step⟩ := Xs.multianewarray2F hexec hown hclink (va_AOA.use hover) harr (g := F0 m pc ls (.int k :: .int n :: rest)) rfl (by rw [hb]; exact hdg) rfl hn hk hb1 hb2 hb3 hdf hdd hcells hslots
  have ec : some cy = some comp := hcy.symm.trans fC
  cases ec
  generalize hF : Jvm.Free.Multi.fill (T.setVm vm₁) cA cy n.toNatClampNeg k.toNatClampNeg (defaultValue ty) n.toNatClampNeg = F at X' step
  have hTh : (T.setVm vm₁).heap = H := hT
  obtain ⟨f1, f2, -, -⟩ := Jvm.Free.Multi.fill_facts (T.setVm vm₁) cA cy n.toNatClampNeg k.toNatClampNeg (defaultValue ty) n.toNatClampNeg
  rw [hF, hTh] at f1 f2
  have hold : ∀ x : Nat, x < H.size → F.heap[x]? = H[x]? := fun x hx => by
    have := Jvm.Free.Multi.fill_old (T.setVm vm₁) cA cy n.toNatClampNeg k.toNatClampNeg (defaultValue ty) (a := x) (by rw [hTh]; exact hx) n.toNatClampNeg
    rw [hF, hTh] at this
    exact this
  have hrow : ∀ j : Nat, j < n.toNatClampNeg → F.heap[H.size + 1 + j]? = some (vp_cell cy z) := fun j hj => by
    have := Jvm.Free.Multi.fill_inner (T.setVm vm₁) cA cy n.toNatClampNeg k.toNatClampNeg (defaultValue ty) n.toNatClampNeg j hj
    rw [hF, hTh, hz] at this
    exact this
  have hout : Jvm.Free.Multi.outerC cA n.toNatClampNeg H.size n.toNatClampNeg = vp_cell cA (n.toNatClampNeg, .inr (.inr (.inr (.inr (fun i => if i < n.toNatClampNeg then some (H.size + 1 + i) else none))))) := by
    rw [vp_cell_q]
    exact vr_outer cA n.toNatClampNeg H.size n.toNatClampNeg
  rw [hout] at f2
  have hlt : ∀ a, a ∈ L → a < H.size := fun a ha => by
    obtain ⟨k9, hk9⟩ := va_pl_get (X := X) (f := f) ha
    exact (hP k9 _ hk9).lt
  have hnl : ∀ i : Nat, i < n.toNatClampNeg → H.size + 1 + i ∉ L := fun i _ h => by
    have := hlt _ h
    omega
  have hnm : ∀ a, a ∈ (List.range n.toNatClampNeg).map (fun i => H.size + 1 + i) → a ∉ L := fun a ha h => by
    obtain ⟨i, -, rfl⟩ := List.mem_map.mp ha
    have := hlt _ h
    omega
  have hP0 : va_P D cl (X ++ va_pl L f) F.heap := hP.kept (fun k9 x hx => hold x.1 ((hP k9 x hx).lt))
  have hP1 : va_P D cl ((X ++ va_pl L f) ++ [(H.size, .inl (cA, n.toNatClampNeg, .inr (.inr (.inr (.inr (fun i => if i < n.toNatClampNeg then some (H.size + 1 + i) else none))))))]) F.heap := hP0.app (fun k9 x hx => by
    have h0 : k9 < 1 := (List.getElem?_eq_some_iff.mp hx).1
    rw [show k9 = 0 by omega] at hx
    cases hx
    exact f2)
  have hP2 : va_P D cl (((X ++ va_pl L f) ++ [(H.size, .inl (cA, n.toNatClampNeg, .inr (.inr (.inr (.inr (fun i => if i < n.toNatClampNeg then some (H.size + 1 + i) else none))))))]) ++ ((List.range n.toNatClampNeg).map (fun i => H.size + 1 + i)).map (fun a => (a, .inl (cy, z)))) F.heap := hP1.app (fun k9 x hx => by
    obtain ⟨a, ha, rfl⟩ := List.mem_map.mp (List.mem_of_getElem? hx)
    obtain ⟨i, hi, rfl⟩ := List.mem_map.mp ha
    exact hrow i (List.mem_range.mp hi))
  have hD2 : va_D A (((X ++ va_pl L f) ++ [(H.size, .inl (cA, n.toNatClampNeg, .inr (.inr (.inr (.inr (fun i => if i < n.toNatClampNeg then some (H.size + 1 + i) else none))))))]) ++ ((List.range n.toNatClampNeg).map (fun i => H.size + 1 + i)).map (fun a => (a, .inl (cy, z)))) := by
    have hD1 := hD.push (e := .inl (cA, n.toNatClampNeg, .inr (.inr (.inr (.inr (fun i => if i < n.toNatClampNeg then some (H.size + 1 + i) else none)))))) hP rfl (hA _ hS.1)
    generalize hW1 : (X ++ va_pl L f) ++ [(H.size, .inl (cA, n.toNatClampNeg, .inr (.inr (.inr (.inr (fun i => if i < n.toNatClampNeg then some (H.size + 1 + i) else none))))))] = W1 at hD1 hP1 ⊢
    have hle : ∀ (k9 : Nat) (x : Nat × va_E), W1[k9]? = some x → x.1 ≤ H.size := fun k9 x hx => by
      rw [← hW1] at hx
      by_cases hl : k9 < (X ++ va_pl L f).length
      · rw [List.getElem?_append_left hl] at hx
        exact Nat.le_of_lt ((hP k9 x hx).lt)
      · rw [List.getElem?_append_right (by omega)] at hx
        have h0 : k9 - (X ++ va_pl L f).length < 1 := (List.getElem?_eq_some_iff.mp hx).1
        rw [show k9 - (X ++ va_pl L f).length = 0 by omega] at hx
        cases hx
        exact Nat.le_refl _
    have hr : ∀ (k9 : Nat) (x : Nat × va_E), (((List.range n.toNatClampNeg).map (fun i => H.size + 1 + i)).map (fun a => ((a, .inl (cy, z)) : Nat × va_E)))[k9]? = some x → x.1 = H.size + 1 + k9 := fun k9 x hx => by
      rw [List.getElem?_map, List.getElem?_map] at hx
      by_cases h9 : k9 < n.toNatClampNeg
      · rw [List.getElem?_range h9] at hx
        cases hx
        rfl
      · have hn0 : (List.range n.toNatClampNeg)[k9]? = none := List.getElem?_eq_none (by rw [List.length_range]; omega)
        rw [hn0] at hx
        cases hx
    refine ⟨fun i j x y hi hj hxy => ?_, fun k9 x hx => ?_⟩
    · by_cases h1 : i < W1.length <;> by_cases h2 : j < W1.length
      · rw [List.getElem?_append_left h1] at hi
        rw [List.getElem?_append_left h2] at hj
        exact hD1.1 i j x y hi hj hxy
      · rw [List.getElem?_append_left h1] at hi
        rw [List.getElem?_append_right (by omega)] at hj
        have := hle _ _ hi
        have := hr _ _ hj
        omega
      · rw [List.getElem?_append_right (by omega)] at hi
        rw [List.getElem?_append_left h2] at hj
        have := hle _ _ hj
        have := hr _ _ hi
        omega
      · rw [List.getElem?_append_right (by omega)] at hi hj
        have := hr _ _ hi
        have := hr _ _ hj
        omega
    · by_cases h1 : k9 < W1.length
      · rw [List.getElem?_append_left h1] at hx
        exact hD1.2 k9 x hx
      · rw [List.getElem?_append_right (by omega)] at hx
        have := hr _ _ hx
        exact hA _ (by have := hS.1; omega)
  have hAr : ArrOfT s cA (.array ty) := fun N9 z9 => by
    obtain ⟨-, k9, hk9, cm9, hkk9⟩ := (hO 0 0 0).1
    exact ⟨(fun q hq => by cases hq), k9, hk9, cm9, hkk9⟩
  have hK2 : va_K D cl (tys ++ [(cA, .array ty)]) s := ⟨hK.1, fun k9 x hx => by
    by_cases hl : k9 < tys.length
    · rw [List.getElem?_append_left hl] at hx
      exact hK.2 k9 x hx
    · rw [List.getElem?_append_right (by omega)] at hx
      have h0 : k9 - tys.length < 1 := (List.getElem?_eq_some_iff.mp hx).1
      rw [show k9 - tys.length = 0 by omega] at hx
      cases hx
      exact ⟨hAr, fA⟩⟩
  obtain ⟨t, a1, b1⟩ := kk H.size (fun i => H.size + 1 + i) cA F.heap (fun i j _ _ h => by have h9 : H.size + 1 + i = H.size + 1 + j := h; omega) hnl hK2 (by rw [← vr_rows hnm]; exact vr_lay hP2) (by rw [← vr_rows hnm]; exact vr_layD hD2) ⟨by rw [f1]; have := hS.1; omega, fun x h1 h2 => (hold x (Nat.lt_of_lt_of_le h1 hS.1)).trans (hS.2.1 x h1 h2), hS.2.2⟩ F rfl X'
  refine ⟨t, step t ?_, b1⟩
  have e : T.heap.size = H.size := by rw [hT]
  rw [e]
  exact a1
end VGM
/-! ===== END ===== -/

/-! ===== BEGIN printed: names, fields, word lists, decode rows ===== -/
def RX0 : String := "MixedWords$Acts"
def TX0 : u_T := fun k => match k with
  | 0 => ("MixedWords$Acts", "mix", "LMixedWords$Mix;", true)
  | 1 => ("MixedWords$Acts", "rowOf", "[I", true)
  | 2 => ("MixedWords$Acts", "columnOf", "[I", true)
  | 3 => ("MixedWords$Acts", "before", "[I", true)
  | 4 => ("MixedWords$Acts", "after", "[I", true)
  | 5 => ("MixedWords$Acts", "oldest", "I", false)
  | 6 => ("MixedWords$Acts", "back", "I", false)
  | _ => ("MixedWords$Acts", "on", "I", false)
def tyX0 : Nat → FieldType := fun k => match k with
  | 0 => .object "MixedWords$Mix"
  | 1 => .array .int
  | 2 => .array .int
  | 3 => .array .int
  | 4 => .array .int
  | 5 => .int
  | 6 => .int
  | _ => .int
abbrev wsX00 : List Cond := u_ws RX0 TX0 8
abbrev cX0_init : ByteArray := prog_2_method_1_code
def yX0_init : MethodName := ⟨RX0, "<init>", "(LMixedWords$Mix;)V"⟩
abbrev cX0_forget : ByteArray := prog_2_method_2_code
def yX0_forget : MethodName := ⟨RX0, "forget", "()V"⟩
abbrev cX0_take : ByteArray := prog_2_method_3_code
def yX0_take : MethodName := ⟨RX0, "take", "(III)I"⟩
abbrev cX0_canGoBack : ByteArray := prog_2_method_4_code
def yX0_canGoBack : MethodName := ⟨RX0, "canGoBack", "()Z"⟩
abbrev cX0_canGoOn : ByteArray := prog_2_method_5_code
def yX0_canGoOn : MethodName := ⟨RX0, "canGoOn", "()Z"⟩
abbrev cX0_goBack : ByteArray := prog_2_method_6_code
def yX0_goBack : MethodName := ⟨RX0, "goBack", "()I"⟩
abbrev cX0_goOn : ByteArray := prog_2_method_7_code
def yX0_goOn : MethodName := ⟨RX0, "goOn", "()I"⟩
def RX1 : String := "MixedWords$Leader"
def TX1 : u_T := fun k => match k with
  | 0 => ("MixedWords$Leader", "mix", "LMixedWords$Mix;", true)
  | 1 => ("MixedWords$Leader", "columns", "[[I", true)
  | 2 => ("MixedWords$Leader", "steps", "[[I", true)
  | 3 => ("MixedWords$Leader", "target", "[I", true)
  | 4 => ("MixedWords$Leader", "times", "I", false)
  | _ => ("MixedWords$Leader", "stamp", "I", false)
def tyX1 : Nat → FieldType := fun k => match k with
  | 0 => .object "MixedWords$Mix"
  | 1 => .array (.array .int)
  | 2 => .array (.array .int)
  | 3 => .array .int
  | 4 => .int
  | _ => .int
abbrev wsX10 : List Cond := u_ws RX1 TX1 6
abbrev cX1_init : ByteArray := prog_3_method_1_code
def yX1_init : MethodName := ⟨RX1, "<init>", "(LMixedWords$Mix;)V"⟩
abbrev cX1_lead : ByteArray := prog_3_method_2_code
def yX1_lead : MethodName := ⟨RX1, "lead", "()V"⟩
abbrev cX1_begin : ByteArray := prog_3_method_3_code
def yX1_begin : MethodName := ⟨RX1, "begin", "()V"⟩
abbrev cX1_shortenFirst : ByteArray := prog_3_method_4_code
def yX1_shortenFirst : MethodName := ⟨RX1, "shortenFirst", "()Z"⟩
abbrev cX1_quotient : ByteArray := prog_3_method_5_code
def yX1_quotient : MethodName := ⟨RX1, "quotient", "(II)I"⟩
abbrev cX1_shorten : ByteArray := prog_3_method_6_code
def yX1_shorten : MethodName := ⟨RX1, "shorten", "(III)V"⟩
abbrev cX1_aim : ByteArray := prog_3_method_7_code
def yX1_aim : MethodName := ⟨RX1, "aim", "()V"⟩
def RX2 : String := "MixedWords$Least"
def TX2 : u_T := fun k => match k with
  | 0 => ("MixedWords$Least", "square", "[[J", true)
  | 1 => ("MixedWords$Least", "right", "[J", true)
  | 2 => ("MixedWords$Least", "picked", "[I", true)
  | 3 => ("MixedWords$Least", "above", "[J", true)
  | _ => ("MixedWords$Least", "below", "J", false)
def tyX2 : Nat → FieldType := fun k => match k with
  | 0 => .array (.array .long)
  | 1 => .array .long
  | 2 => .array .int
  | 3 => .array .long
  | _ => .long
abbrev wsX20 : List Cond := u_ws RX2 TX2 5
abbrev cX2_init : ByteArray := prog_4_method_1_code
def yX2_init : MethodName := ⟨RX2, "<init>", "()V"⟩
abbrev cX2_worthOf : ByteArray := prog_4_method_2_code
def yX2_worthOf : MethodName := ⟨RX2, "worthOf", "(LMixedWords$Mix;I)J"⟩
abbrev cX2_solve : ByteArray := prog_4_method_3_code
def yX2_solve : MethodName := ⟨RX2, "solve", "([[I[III)V"⟩
abbrev cX2_swapRight : ByteArray := prog_4_method_4_code
def yX2_swapRight : MethodName := ⟨RX2, "swapRight", "(II)V"⟩
abbrev cX2_determinant : ByteArray := prog_4_method_5_code
def yX2_determinant : MethodName := ⟨RX2, "determinant", "([[JIII)J"⟩
def RX3 : String := "MixedWords$Mix"
def TX3 : u_T := fun k => match k with
  | 0 => ("MixedWords$Mix", "height", "I", false)
  | 1 => ("MixedWords$Mix", "width", "I", false)
  | 2 => ("MixedWords$Mix", "letterCount", "I", false)
  | 3 => ("MixedWords$Mix", "stamp", "I", false)
  | 4 => ("MixedWords$Mix", "cells", "[[I", true)
  | _ => ("MixedWords$Mix", "heard", "[I", true)
def tyX3 : Nat → FieldType := fun k => match k with
  | 0 => .int
  | 1 => .int
  | 2 => .int
  | 3 => .int
  | 4 => .array (.array .int)
  | _ => .array .int
abbrev wsX30 : List Cond := u_ws RX3 TX3 6
abbrev cX3_init : ByteArray := prog_5_method_1_code
def yX3_init : MethodName := ⟨RX3, "<init>", "()V"⟩
abbrev cX3_hasRow : ByteArray := prog_5_method_2_code
def yX3_hasRow : MethodName := ⟨RX3, "hasRow", "(I)Z"⟩
abbrev cX3_hasColumn : ByteArray := prog_5_method_3_code
def yX3_hasColumn : MethodName := ⟨RX3, "hasColumn", "(I)Z"⟩
abbrev cX3_bitsOfLetter : ByteArray := prog_5_method_4_code
def yX3_bitsOfLetter : MethodName := ⟨RX3, "bitsOfLetter", "()I"⟩
abbrev cX3_wordCount : ByteArray := prog_5_method_5_code
def yX3_wordCount : MethodName := ⟨RX3, "wordCount", "()I"⟩
abbrev cX3_follow : ByteArray := prog_5_method_6_code
def yX3_follow : MethodName := ⟨RX3, "follow", "(II)I"⟩
abbrev cX3_choose : ByteArray := prog_5_method_7_code
def yX3_choose : MethodName := ⟨RX3, "choose", "(I)V"⟩
abbrev cX3_reshape : ByteArray := prog_5_method_8_code
def yX3_reshape : MethodName := ⟨RX3, "reshape", "(II)V"⟩
abbrev cX3_at : ByteArray := prog_5_method_9_code
def yX3_at : MethodName := ⟨RX3, "at", "(II)I"⟩
abbrev cX3_put : ByteArray := prog_5_method_10_code
def yX3_put : MethodName := ⟨RX3, "put", "(III)V"⟩
abbrev cX3_takes : ByteArray := prog_5_method_11_code
def yX3_takes : MethodName := ⟨RX3, "takes", "([JI)Z"⟩
abbrev cX3_copy : ByteArray := prog_5_method_12_code
def yX3_copy : MethodName := ⟨RX3, "copy", "([JI)V"⟩
def RX4 : String := "MixedWords$Reader"
def TX4 : u_T := fun k => match k with
  | 0 => ("MixedWords$Reader", "tape", "LMixedWords$Tape;", true)
  | 1 => ("MixedWords$Reader", "cells", "[[I", true)
  | 2 => ("MixedWords$Reader", "height", "I", false)
  | 3 => ("MixedWords$Reader", "width", "I", false)
  | 4 => ("MixedWords$Reader", "inRow", "I", false)
  | _ => ("MixedWords$Reader", "place", "I", false)
def tyX4 : Nat → FieldType := fun k => match k with
  | 0 => .object "MixedWords$Tape"
  | 1 => .array (.array .int)
  | 2 => .int
  | 3 => .int
  | 4 => .int
  | _ => .int
abbrev wsX40 : List Cond := u_ws RX4 TX4 6
abbrev cX4_init : ByteArray := prog_6_method_1_code
def yX4_init : MethodName := ⟨RX4, "<init>", "(LMixedWords$Tape;)V"⟩
abbrev cX4_parse : ByteArray := prog_6_method_2_code
def yX4_parse : MethodName := ⟨RX4, "parse", "()I"⟩
abbrev cX4_skipBlanks : ByteArray := prog_6_method_3_code
def yX4_skipBlanks : MethodName := ⟨RX4, "skipBlanks", "()V"⟩
abbrev cX4_isDigit : ByteArray := prog_6_method_4_code
def yX4_isDigit : MethodName := ⟨RX4, "isDigit", "()Z"⟩
abbrev cX4_takeNumber : ByteArray := prog_6_method_5_code
def yX4_takeNumber : MethodName := ⟨RX4, "takeNumber", "()Z"⟩
abbrev cX4_isRowWhole : ByteArray := prog_6_method_6_code
def yX4_isRowWhole : MethodName := ⟨RX4, "isRowWhole", "()Z"⟩
abbrev cX4_endRow : ByteArray := prog_6_method_7_code
def yX4_endRow : MethodName := ⟨RX4, "endRow", "()V"⟩
abbrev cX4_takeSign : ByteArray := prog_6_method_8_code
def yX4_takeSign : MethodName := ⟨RX4, "takeSign", "()Z"⟩
def RX5 : String := "MixedWords$Sheet"
def TX5 : u_T := fun k => match k with
  | 0 => ("MixedWords$Sheet", "lane", "I", false)
  | 1 => ("MixedWords$Sheet", "length", "I", false)
  | _ => ("MixedWords$Sheet", "items", "[J", true)
def tyX5 : Nat → FieldType := fun k => match k with
  | 0 => .int
  | 1 => .int
  | _ => .array .long
abbrev wsX50 : List Cond := u_ws RX5 TX5 3
abbrev cX5_init : ByteArray := prog_7_method_1_code
def yX5_init : MethodName := ⟨RX5, "<init>", "()V"⟩
abbrev cX5_holds : ByteArray := prog_7_method_2_code
def yX5_holds : MethodName := ⟨RX5, "holds", "()Z"⟩
abbrev cX5_renew : ByteArray := prog_7_method_3_code
def yX5_renew : MethodName := ⟨RX5, "renew", "(II)V"⟩
abbrev cX5_empty : ByteArray := prog_7_method_4_code
def yX5_empty : MethodName := ⟨RX5, "empty", "()V"⟩
abbrev cX5_put : ByteArray := prog_7_method_5_code
def yX5_put : MethodName := ⟨RX5, "put", "(II)V"⟩
def RX6 : String := "MixedWords$Taker"
def TX6 : u_T := fun k => match k with
  | 0 => ("MixedWords$Taker", "mix", "LMixedWords$Mix;", true)
  | 1 => ("MixedWords$Taker", "left", "[I", true)
  | 2 => ("MixedWords$Taker", "sequence", "[I", true)
  | _ => ("MixedWords$Taker", "indexes", "[I", true)
def tyX6 : Nat → FieldType := fun k => match k with
  | 0 => .object "MixedWords$Mix"
  | 1 => .array .int
  | 2 => .array .int
  | _ => .array .int
abbrev wsX60 : List Cond := u_ws RX6 TX6 4
abbrev cX6_init : ByteArray := prog_8_method_1_code
def yX6_init : MethodName := ⟨RX6, "<init>", "(LMixedWords$Mix;)V"⟩
abbrev cX6_takeAll : ByteArray := prog_8_method_2_code
def yX6_takeAll : MethodName := ⟨RX6, "takeAll", "()V"⟩
abbrev cX6_greatest : ByteArray := prog_8_method_3_code
def yX6_greatest : MethodName := ⟨RX6, "greatest", "(I)I"⟩
abbrev cX6_takeOff : ByteArray := prog_8_method_4_code
def yX6_takeOff : MethodName := ⟨RX6, "takeOff", "(I)V"⟩
def RX7 : String := "MixedWords$Tape"
def TX7 : u_T := fun k => match k with
  | 0 => ("MixedWords$Tape", "bytes", "[B", true)
  | _ => ("MixedWords$Tape", "length", "I", false)
def tyX7 : Nat → FieldType := fun k => match k with
  | 0 => .array .byte
  | _ => .int
abbrev wsX70 : List Cond := u_ws RX7 TX7 2
abbrev cX7_init : ByteArray := prog_9_method_1_code
def yX7_init : MethodName := ⟨RX7, "<init>", "()V"⟩
abbrev cX7_takes : ByteArray := prog_9_method_2_code
def yX7_takes : MethodName := ⟨RX7, "takes", "(JI)Z"⟩
abbrev cX7_byteOf : ByteArray := prog_9_method_3_code
def yX7_byteOf : MethodName := ⟨RX7, "byteOf", "(JI)I"⟩
abbrev cX7_hasRoom : ByteArray := prog_9_method_4_code
def yX7_hasRoom : MethodName := ⟨RX7, "hasRoom", "(I)Z"⟩
abbrev cX7_append : ByteArray := prog_9_method_5_code
def yX7_append : MethodName := ⟨RX7, "append", "(JI)I"⟩
abbrev cX7_at : ByteArray := prog_9_method_6_code
def yX7_at : MethodName := ⟨RX7, "at", "(I)I"⟩
abbrev cX7_clear : ByteArray := prog_9_method_7_code
def yX7_clear : MethodName := ⟨RX7, "clear", "()V"⟩
def RX8 : String := "MixedWords$Words"
def TX8 : u_T := fun k => match k with
  | 0 => ("MixedWords$Words", "mix", "LMixedWords$Mix;", true)
  | 1 => ("MixedWords$Words", "offs", "[I", true)
  | 2 => ("MixedWords$Words", "byOff", "[I", true)
  | 3 => ("MixedWords$Words", "spare", "[I", true)
  | 4 => ("MixedWords$Words", "offsStamp", "I", false)
  | _ => ("MixedWords$Words", "byOffStamp", "I", false)
def tyX8 : Nat → FieldType := fun k => match k with
  | 0 => .object "MixedWords$Mix"
  | 1 => .array .int
  | 2 => .array .int
  | 3 => .array .int
  | 4 => .int
  | _ => .int
abbrev wsX80 : List Cond := u_ws RX8 TX8 6
abbrev cX8_init : ByteArray := prog_10_method_1_code
def yX8_init : MethodName := ⟨RX8, "<init>", "(LMixedWords$Mix;)V"⟩
abbrev cX8_offOf : ByteArray := prog_10_method_2_code
def yX8_offOf : MethodName := ⟨RX8, "offOf", "(I)I"⟩
abbrev cX8_indexOf : ByteArray := prog_10_method_3_code
def yX8_indexOf : MethodName := ⟨RX8, "indexOf", "(II)I"⟩
abbrev cX8_bitOf : ByteArray := prog_10_method_4_code
def yX8_bitOf : MethodName := ⟨RX8, "bitOf", "(III)I"⟩
abbrev cX8_leastWith : ByteArray := prog_10_method_5_code
def yX8_leastWith : MethodName := ⟨RX8, "leastWith", "(III)I"⟩
abbrev cX8_ranked : ByteArray := prog_10_method_6_code
def yX8_ranked : MethodName := ⟨RX8, "ranked", "(I)I"⟩
abbrev cX8_workOutOffs : ByteArray := prog_10_method_7_code
def yX8_workOutOffs : MethodName := ⟨RX8, "workOutOffs", "()V"⟩
abbrev cX8_sortByOff : ByteArray := prog_10_method_8_code
def yX8_sortByOff : MethodName := ⟨RX8, "sortByOff", "()V"⟩
abbrev cX8_mergeRuns : ByteArray := prog_10_method_9_code
def yX8_mergeRuns : MethodName := ⟨RX8, "mergeRuns", "(III)V"⟩
def RX9 : String := "MixedWords"
def TX9 : u_T := fun k => match k with
  | 0 => ("MixedWords", "mix", "LMixedWords$Mix;", true)
  | 1 => ("MixedWords", "acts", "LMixedWords$Acts;", true)
  | 2 => ("MixedWords", "tape", "LMixedWords$Tape;", true)
  | 3 => ("MixedWords", "reader", "LMixedWords$Reader;", true)
  | 4 => ("MixedWords", "words", "LMixedWords$Words;", true)
  | 5 => ("MixedWords", "least", "LMixedWords$Least;", true)
  | 6 => ("MixedWords", "taker", "LMixedWords$Taker;", true)
  | 7 => ("MixedWords", "leader", "LMixedWords$Leader;", true)
  | _ => ("MixedWords", "sheets", "[LMixedWords$Sheet;", true)
def tyX9 : Nat → FieldType := fun k => match k with
  | 0 => .object "MixedWords$Mix"
  | 1 => .object "MixedWords$Acts"
  | 2 => .object "MixedWords$Tape"
  | 3 => .object "MixedWords$Reader"
  | 4 => .object "MixedWords$Words"
  | 5 => .object "MixedWords$Least"
  | 6 => .object "MixedWords$Taker"
  | 7 => .object "MixedWords$Leader"
  | _ => .array (.object "MixedWords$Sheet")
abbrev wsX90 : List Cond := u_ws RX9 TX9 9
abbrev cX9_init : ByteArray := prog_1_method_1_code
def yX9_init : MethodName := ⟨RX9, "<init>", "()V"⟩
abbrev cX9_table : ByteArray := prog_1_method_2_code
def yX9_table : MethodName := ⟨RX9, "table", "(II)I"⟩
abbrev cX9_letters : ByteArray := prog_1_method_3_code
def yX9_letters : MethodName := ⟨RX9, "letters", "(I)I"⟩
abbrev cX9_set : ByteArray := prog_1_method_4_code
def yX9_set : MethodName := ⟨RX9, "set", "(III)I"⟩
abbrev cX9_hear : ByteArray := prog_1_method_5_code
def yX9_hear : MethodName := ⟨RX9, "hear", "(II)I"⟩
abbrev cX9_undo : ByteArray := prog_1_method_6_code
def yX9_undo : MethodName := ⟨RX9, "undo", "()I"⟩
abbrev cX9_redo : ByteArray := prog_1_method_7_code
def yX9_redo : MethodName := ⟨RX9, "redo", "()I"⟩
abbrev cX9_told : ByteArray := prog_1_method_8_code
def yX9_told : MethodName := ⟨RX9, "told", "(II)I"⟩
abbrev cX9_type : ByteArray := prog_1_method_9_code
def yX9_type : MethodName := ⟨RX9, "type", "(JI)I"⟩
abbrev cX9_read : ByteArray := prog_1_method_10_code
def yX9_read : MethodName := ⟨RX9, "read", "()I"⟩
abbrev cX9_off : ByteArray := prog_1_method_11_code
def yX9_off : MethodName := ⟨RX9, "off", "(I)I"⟩
abbrev cX9_nearest : ByteArray := prog_1_method_12_code
def yX9_nearest : MethodName := ⟨RX9, "nearest", "(I)I"⟩
abbrev cX9_soft : ByteArray := prog_1_method_13_code
def yX9_soft : MethodName := ⟨RX9, "soft", "(II)I"⟩
abbrev cX9_gram : ByteArray := prog_1_method_14_code
def yX9_gram : MethodName := ⟨RX9, "gram", "(II)I"⟩
abbrev cX9_worth : ByteArray := prog_1_method_15_code
def yX9_worth : MethodName := ⟨RX9, "worth", "(I)J"⟩
abbrev cX9_undone : ByteArray := prog_1_method_16_code
def yX9_undone : MethodName := ⟨RX9, "undone", "()I"⟩
abbrev cX9_fraction : ByteArray := prog_1_method_17_code
def yX9_fraction : MethodName := ⟨RX9, "fraction", "(II)J"⟩
abbrev cX9_taken : ByteArray := prog_1_method_18_code
def yX9_taken : MethodName := ⟨RX9, "taken", "()I"⟩
abbrev cX9_order : ByteArray := prog_1_method_19_code
def yX9_order : MethodName := ⟨RX9, "order", "(I)I"⟩
abbrev cX9_led : ByteArray := prog_1_method_20_code
def yX9_led : MethodName := ⟨RX9, "led", "()I"⟩
abbrev cX9_ledAt : ByteArray := prog_1_method_21_code
def yX9_ledAt : MethodName := ⟨RX9, "ledAt", "(III)I"⟩
abbrev cX9_ledWord : ByteArray := prog_1_method_22_code
def yX9_ledWord : MethodName := ⟨RX9, "ledWord", "()I"⟩
abbrev cX9_chosen : ByteArray := prog_1_method_23_code
def yX9_chosen : MethodName := ⟨RX9, "chosen", "(I)I"⟩
abbrev cX9_sheet : ByteArray := prog_1_method_24_code
def yX9_sheet : MethodName := ⟨RX9, "sheet", "(III)I"⟩
abbrev cX9_drop : ByteArray := prog_1_method_25_code
def yX9_drop : MethodName := ⟨RX9, "drop", "(I)I"⟩
abbrev cX9_item : ByteArray := prog_1_method_26_code
def yX9_item : MethodName := ⟨RX9, "item", "(IIII)I"⟩
abbrev cX9_rows : ByteArray := prog_1_method_27_code
def yX9_rows : MethodName := ⟨RX9, "rows", "(III)I"⟩
abbrev cX9_within : ByteArray := prog_1_method_28_code
def yX9_within : MethodName := ⟨RX9, "within", "(JI)Z"⟩
abbrev cX9_isSheet : ByteArray := prog_1_method_29_code
def yX9_isSheet : MethodName := ⟨RX9, "isSheet", "(I)Z"⟩
abbrev cX9_isLane : ByteArray := prog_1_method_30_code
def yX9_isLane : MethodName := ⟨RX9, "isLane", "(I)Z"⟩
abbrev cX9_refusal : ByteArray := prog_1_method_31_code
def yX9_refusal : MethodName := ⟨RX9, "refusal", "(IIII)I"⟩
abbrev cX9_product : ByteArray := prog_1_method_32_code
def yX9_product : MethodName := ⟨RX9, "product", "([[IIII)I"⟩
abbrev cX9_nearestLetter : ByteArray := prog_1_method_33_code
def yX9_nearestLetter : MethodName := ⟨RX9, "nearestLetter", "(JJI)I"⟩
abbrev cX9_nearestHalf : ByteArray := prog_1_method_34_code
def yX9_nearestHalf : MethodName := ⟨RX9, "nearestHalf", "(JJ)J"⟩
abbrev cX9_roundedUp : ByteArray := prog_1_method_35_code
def yX9_roundedUp : MethodName := ⟨RX9, "roundedUp", "(JJ)J"⟩
abbrev cX9_held : ByteArray := prog_1_method_36_code
def yX9_held : MethodName := ⟨RX9, "held", "(JI)I"⟩
abbrev cX9_commonDivisor : ByteArray := prog_1_method_37_code
def yX9_commonDivisor : MethodName := ⟨RX9, "commonDivisor", "(JJ)J"⟩
abbrev cX9_mirror : ByteArray := prog_1_method_38_code
def yX9_mirror : MethodName := ⟨RX9, "mirror", "(II)I"⟩
def RX10 : String := "MixedWordsModel"
def TX10 : u_T := fun k => match k with
  | 0 => ("MixedWordsModel", "rows", "I", false)
  | 1 => ("MixedWordsModel", "columns", "I", false)
  | 2 => ("MixedWordsModel", "a", "I", false)
  | 3 => ("MixedWordsModel", "told", "[I", true)
  | 4 => ("MixedWordsModel", "done", "I", false)
  | 5 => ("MixedWordsModel", "undone", "I", false)
  | 6 => ("MixedWordsModel", "actPlace", "[I", true)
  | 7 => ("MixedWordsModel", "actWas", "[I", true)
  | 8 => ("MixedWordsModel", "actIs", "[I", true)
  | 9 => ("MixedWordsModel", "tape", "[I", true)
  | 10 => ("MixedWordsModel", "taped", "I", false)
  | 11 => ("MixedWordsModel", "at", "I", false)
  | 12 => ("MixedWordsModel", "wrong", "I", false)
  | 13 => ("MixedWordsModel", "readAt", "[I", true)
  | 14 => ("MixedWordsModel", "readRows", "I", false)
  | 15 => ("MixedWordsModel", "readColumns", "I", false)
  | 16 => ("MixedWordsModel", "offs", "[I", true)
  | 17 => ("MixedWordsModel", "cols", "[I", true)
  | 18 => ("MixedWordsModel", "trans", "[I", true)
  | 19 => ("MixedWordsModel", "square", "[J", true)
  | 20 => ("MixedWordsModel", "met", "[I", true)
  | 21 => ("MixedWordsModel", "above", "J", false)
  | 22 => ("MixedWordsModel", "below", "J", false)
  | 23 => ("MixedWordsModel", "letters", "[I", true)
  | 24 => ("MixedWordsModel", "wholes", "[J", true)
  | 25 => ("MixedWordsModel", "lanes", "[I", true)
  | 26 => ("MixedWordsModel", "sizes", "[I", true)
  | _ => ("MixedWordsModel", "items", "[I", true)
def tyX10 : Nat → FieldType := fun k => match k with
  | 0 => .int
  | 1 => .int
  | 2 => .int
  | 3 => .array .int
  | 4 => .int
  | 5 => .int
  | 6 => .array .int
  | 7 => .array .int
  | 8 => .array .int
  | 9 => .array .int
  | 10 => .int
  | 11 => .int
  | 12 => .int
  | 13 => .array .int
  | 14 => .int
  | 15 => .int
  | 16 => .array .int
  | 17 => .array .int
  | 18 => .array .int
  | 19 => .array .long
  | 20 => .array .int
  | 21 => .long
  | 22 => .long
  | 23 => .array .int
  | 24 => .array .long
  | 25 => .array .int
  | 26 => .array .int
  | _ => .array .int
abbrev wsX100 : List Cond := u_ws RX10 TX10 28
abbrev cX10_in : ByteArray := prog_12_method_2_code
def yX10_in : MethodName := ⟨RX10, "in", "(JJJ)Z"⟩
abbrev cX10_init : ByteArray := prog_12_method_3_code
def yX10_init : MethodName := ⟨RX10, "<init>", "()V"⟩
abbrev cX10_place : ByteArray := prog_12_method_4_code
def yX10_place : MethodName := ⟨RX10, "place", "(II)I"⟩
abbrev cX10_forget : ByteArray := prog_12_method_5_code
def yX10_forget : MethodName := ⟨RX10, "forget", "()V"⟩
abbrev cX10_table : ByteArray := prog_12_method_6_code
def yX10_table : MethodName := ⟨RX10, "table", "(II)I"⟩
abbrev cX10_letters : ByteArray := prog_12_method_7_code
def yX10_letters : MethodName := ⟨RX10, "letters", "(I)I"⟩
abbrev cX10_isRow : ByteArray := prog_12_method_8_code
def yX10_isRow : MethodName := ⟨RX10, "isRow", "(I)Z"⟩
abbrev cX10_isColumn : ByteArray := prog_12_method_9_code
def yX10_isColumn : MethodName := ⟨RX10, "isColumn", "(I)Z"⟩
abbrev cX10_act : ByteArray := prog_12_method_10_code
def yX10_act : MethodName := ⟨RX10, "act", "(II)I"⟩
abbrev cX10_set : ByteArray := prog_12_method_11_code
def yX10_set : MethodName := ⟨RX10, "set", "(III)I"⟩
abbrev cX10_hear : ByteArray := prog_12_method_12_code
def yX10_hear : MethodName := ⟨RX10, "hear", "(II)I"⟩
abbrev cX10_undo : ByteArray := prog_12_method_13_code
def yX10_undo : MethodName := ⟨RX10, "undo", "()I"⟩
abbrev cX10_redo : ByteArray := prog_12_method_14_code
def yX10_redo : MethodName := ⟨RX10, "redo", "()I"⟩
abbrev cX10_told : ByteArray := prog_12_method_15_code
def yX10_told : MethodName := ⟨RX10, "told", "(II)I"⟩
abbrev cX10_type : ByteArray := prog_12_method_16_code
def yX10_type : MethodName := ⟨RX10, "type", "(JI)I"⟩
abbrev cX10_next : ByteArray := prog_12_method_17_code
def yX10_next : MethodName := ⟨RX10, "next", "()I"⟩
abbrev cX10_fails : ByteArray := prog_12_method_18_code
def yX10_fails : MethodName := ⟨RX10, "fails", "(I)V"⟩
abbrev cX10_number : ByteArray := prog_12_method_19_code
def yX10_number : MethodName := ⟨RX10, "number", "()I"⟩
abbrev cX10_row : ByteArray := prog_12_method_20_code
def yX10_row : MethodName := ⟨RX10, "row", "(I)I"⟩
abbrev cX10_read : ByteArray := prog_12_method_21_code
def yX10_read : MethodName := ⟨RX10, "read", "()I"⟩
abbrev cX10_words : ByteArray := prog_12_method_22_code
def yX10_words : MethodName := ⟨RX10, "words", "()I"⟩
abbrev cX10_isWord : ByteArray := prog_12_method_23_code
def yX10_isWord : MethodName := ⟨RX10, "isWord", "(I)Z"⟩
abbrev cX10_letter : ByteArray := prog_12_method_24_code
def yX10_letter : MethodName := ⟨RX10, "letter", "(II)I"⟩
abbrev cX10_numberOf : ByteArray := prog_12_method_25_code
def yX10_numberOf : MethodName := ⟨RX10, "numberOf", "([I)I"⟩
abbrev cX10_offOf : ByteArray := prog_12_method_26_code
def yX10_offOf : MethodName := ⟨RX10, "offOf", "(I)I"⟩
abbrev cX10_off : ByteArray := prog_12_method_27_code
def yX10_off : MethodName := ⟨RX10, "off", "(I)I"⟩
abbrev cX10_offAll : ByteArray := prog_12_method_28_code
def yX10_offAll : MethodName := ⟨RX10, "offAll", "()V"⟩
abbrev cX10_nearest : ByteArray := prog_12_method_29_code
def yX10_nearest : MethodName := ⟨RX10, "nearest", "(I)I"⟩
abbrev cX10_bit : ByteArray := prog_12_method_30_code
def yX10_bit : MethodName := ⟨RX10, "bit", "(II)I"⟩
abbrev cX10_soft : ByteArray := prog_12_method_31_code
def yX10_soft : MethodName := ⟨RX10, "soft", "(II)I"⟩
abbrev cX10_lay : ByteArray := prog_12_method_32_code
def yX10_lay : MethodName := ⟨RX10, "lay", "()V"⟩
abbrev cX10_dot : ByteArray := prog_12_method_33_code
def yX10_dot : MethodName := ⟨RX10, "dot", "(II)I"⟩
abbrev cX10_gram : ByteArray := prog_12_method_34_code
def yX10_gram : MethodName := ⟨RX10, "gram", "(II)I"⟩
abbrev cX10_determinant : ByteArray := prog_12_method_35_code
def yX10_determinant : MethodName := ⟨RX10, "determinant", "(I)J"⟩
abbrev cX10_worthOf : ByteArray := prog_12_method_36_code
def yX10_worthOf : MethodName := ⟨RX10, "worthOf", "(I)J"⟩
abbrev cX10_whole : ByteArray := prog_12_method_37_code
def yX10_whole : MethodName := ⟨RX10, "whole", "()I"⟩
abbrev cX10_worth : ByteArray := prog_12_method_38_code
def yX10_worth : MethodName := ⟨RX10, "worth", "(I)J"⟩
abbrev cX10_fractionOf : ByteArray := prog_12_method_39_code
def yX10_fractionOf : MethodName := ⟨RX10, "fractionOf", "(I)V"⟩
abbrev cX10_meetHeard : ByteArray := prog_12_method_40_code
def yX10_meetHeard : MethodName := ⟨RX10, "meetHeard", "()V"⟩
abbrev cX10_nearestLetter : ByteArray := prog_12_method_41_code
def yX10_nearestLetter : MethodName := ⟨RX10, "nearestLetter", "(JJ)I"⟩
abbrev cX10_undone : ByteArray := prog_12_method_42_code
def yX10_undone : MethodName := ⟨RX10, "undone", "()I"⟩
abbrev cX10_common : ByteArray := prog_12_method_43_code
def yX10_common : MethodName := ⟨RX10, "common", "(JJ)J"⟩
abbrev cX10_fraction : ByteArray := prog_12_method_44_code
def yX10_fraction : MethodName := ⟨RX10, "fraction", "(II)J"⟩
abbrev cX10_nextTaken : ByteArray := prog_12_method_45_code
def yX10_nextTaken : MethodName := ⟨RX10, "nextTaken", "(I)I"⟩
abbrev cX10_taken : ByteArray := prog_12_method_46_code
def yX10_taken : MethodName := ⟨RX10, "taken", "()I"⟩
abbrev cX10_order : ByteArray := prog_12_method_47_code
def yX10_order : MethodName := ⟨RX10, "order", "(I)I"⟩
abbrev cX10_nearestWhole : ByteArray := prog_12_method_48_code
def yX10_nearestWhole : MethodName := ⟨RX10, "nearestWhole", "(II)I"⟩
abbrev cX10_steps : ByteArray := prog_12_method_49_code
def yX10_steps : MethodName := ⟨RX10, "steps", "()Z"⟩
abbrev cX10_lead : ByteArray := prog_12_method_50_code
def yX10_lead : MethodName := ⟨RX10, "lead", "()I"⟩
abbrev cX10_led : ByteArray := prog_12_method_51_code
def yX10_led : MethodName := ⟨RX10, "led", "()I"⟩
abbrev cX10_ledAt : ByteArray := prog_12_method_52_code
def yX10_ledAt : MethodName := ⟨RX10, "ledAt", "(III)I"⟩
abbrev cX10_ledWord : ByteArray := prog_12_method_53_code
def yX10_ledWord : MethodName := ⟨RX10, "ledWord", "()I"⟩
abbrev cX10_isAhead : ByteArray := prog_12_method_54_code
def yX10_isAhead : MethodName := ⟨RX10, "isAhead", "(II)Z"⟩
abbrev cX10_chosen : ByteArray := prog_12_method_55_code
def yX10_chosen : MethodName := ⟨RX10, "chosen", "(I)I"⟩
abbrev cX10_isSheet : ByteArray := prog_12_method_56_code
def yX10_isSheet : MethodName := ⟨RX10, "isSheet", "(I)Z"⟩
abbrev cX10_isLane : ByteArray := prog_12_method_57_code
def yX10_isLane : MethodName := ⟨RX10, "isLane", "(I)Z"⟩
abbrev cX10_sheet : ByteArray := prog_12_method_58_code
def yX10_sheet : MethodName := ⟨RX10, "sheet", "(III)I"⟩
abbrev cX10_drop : ByteArray := prog_12_method_59_code
def yX10_drop : MethodName := ⟨RX10, "drop", "(I)I"⟩
abbrev cX10_item : ByteArray := prog_12_method_60_code
def yX10_item : MethodName := ⟨RX10, "item", "(IIII)I"⟩
abbrev cX10_rows : ByteArray := prog_12_method_61_code
def yX10_rows : MethodName := ⟨RX10, "rows", "(III)I"⟩
def RJ6 : String := "java/lang/Integer"
def TJ6 : u_T := fun k => match k with
  | _ => ("", "", "", false)
def tyJ6 : Nat → FieldType := fun k => match k with
  | _ => .int
abbrev wsJ60 : List Cond := u_ws RJ6 TJ6 0
abbrev cJ6_bitCount_0f7a4 : ByteArray := prog_13_method_49_code
def yJ6_bitCount_0f7a4 : MethodName := ⟨RJ6, "bitCount", "(I)I"⟩
def RJ9 : String := "java/lang/Math"
def TJ9 : u_T := fun k => match k with
  | _ => ("", "", "", false)
def tyJ9 : Nat → FieldType := fun k => match k with
  | _ => .int
abbrev wsJ90 : List Cond := u_ws RJ9 TJ9 0
abbrev cJ9_floorDiv_f86c9 : ByteArray := prog_14_method_49_code
def yJ9_floorDiv_f86c9 : MethodName := ⟨RJ9, "floorDiv", "(JJ)J"⟩
abbrev cJ9_abs_0f7a4 : ByteArray := prog_14_method_59_code
def yJ9_abs_0f7a4 : MethodName := ⟨RJ9, "abs", "(I)I"⟩
abbrev cJ9_abs_067f4 : ByteArray := prog_14_method_61_code
def yJ9_abs_067f4 : MethodName := ⟨RJ9, "abs", "(J)J"⟩
abbrev cJ9_max_7cf53 : ByteArray := prog_14_method_65_code
def yJ9_max_7cf53 : MethodName := ⟨RJ9, "max", "(II)I"⟩
abbrev cJ9_max_f86c9 : ByteArray := prog_14_method_66_code
def yJ9_max_f86c9 : MethodName := ⟨RJ9, "max", "(JJ)J"⟩
abbrev cJ9_min_7cf53 : ByteArray := prog_14_method_69_code
def yJ9_min_7cf53 : MethodName := ⟨RJ9, "min", "(II)I"⟩
abbrev cJ9_min_f86c9 : ByteArray := prog_14_method_70_code
def yJ9_min_f86c9 : MethodName := ⟨RJ9, "min", "(JJ)J"⟩
def RJ10 : String := "java/lang/System"
def TJ10 : u_T := fun k => match k with
  | _ => ("", "", "", false)
def tyJ10 : Nat → FieldType := fun k => match k with
  | _ => .int
abbrev wsJ100 : List Cond := u_ws RJ10 TJ10 0
def RJ7 : String := "java/util/Arrays"
def TJ7 : u_T := fun k => match k with
  | _ => ("", "", "", false)
def tyJ7 : Nat → FieldType := fun k => match k with
  | _ => .int
abbrev wsJ70 : List Cond := u_ws RJ7 TJ7 0
abbrev cJ7_fill_d0a16 : ByteArray := prog_16_method_101_code
def yJ7_fill_d0a16 : MethodName := ⟨RJ7, "fill", "([JJ)V"⟩
abbrev cJ7_fill_53178 : ByteArray := prog_16_method_103_code
def yJ7_fill_53178 : MethodName := ⟨RJ7, "fill", "([II)V"⟩
def RL : String := "MixedWordsLaw"
abbrev cL_law : ByteArray := code
def yL_law : MethodName := ⟨RL, "law", "([I)Z"⟩
noncomputable def wsX0_init : List Cond := .code yX0_init cX0_init 2 none :: ([.methodLink RX0 1 objectInit, .instanceMethod objectInit, .code objectInit ⟨#[0xb1]⟩ 1 none, .arrayClass .int, .fieldLink RX0 9 "MixedWords$Acts" "rowOf" "[I", .fieldLink RX0 13 "MixedWords$Acts" "columnOf" "[I", .fieldLink RX0 16 "MixedWords$Acts" "before" "[I", .fieldLink RX0 19 "MixedWords$Acts" "after" "[I", .fieldLink RX0 22 "MixedWords$Acts" "oldest" "I", .fieldLink RX0 26 "MixedWords$Acts" "back" "I", .fieldLink RX0 29 "MixedWords$Acts" "on" "I", .fieldLink RX0 32 "MixedWords$Acts" "mix" "LMixedWords$Mix;"] ++ wsX00)
noncomputable def wsX0_forget : List Cond := .code yX0_forget cX0_forget 1 none :: ([.fieldLink RX0 22 "MixedWords$Acts" "oldest" "I", .fieldLink RX0 26 "MixedWords$Acts" "back" "I", .fieldLink RX0 29 "MixedWords$Acts" "on" "I"] ++ wsX00)
noncomputable def wsX3_at : List Cond := .code yX3_at cX3_at 3 (some .int) :: ([.fieldLink RX3 15 "MixedWords$Mix" "width" "I", .fieldLink RX3 29 "MixedWords$Mix" "heard" "[I", .fieldLink RX3 26 "MixedWords$Mix" "cells" "[[I"] ++ wsX30)
noncomputable def wsX3_put : List Cond := .code yX3_put cX3_put 4 none :: ([.fieldLink RX3 15 "MixedWords$Mix" "width" "I", .fieldLink RX3 29 "MixedWords$Mix" "heard" "[I", .fieldLink RX3 26 "MixedWords$Mix" "cells" "[[I", .fieldLink RX3 21 "MixedWords$Mix" "stamp" "I"] ++ wsX30)
noncomputable def wsX0_take : List Cond := .code yX0_take cX0_take 6 (some .int) :: ([.fieldLink RX0 32 "MixedWords$Acts" "mix" "LMixedWords$Mix;", .fieldLink RX0 26 "MixedWords$Acts" "back" "I", .fieldLink RX0 22 "MixedWords$Acts" "oldest" "I", .fieldLink RX0 9 "MixedWords$Acts" "rowOf" "[I", .fieldLink RX0 13 "MixedWords$Acts" "columnOf" "[I", .fieldLink RX0 16 "MixedWords$Acts" "before" "[I", .fieldLink RX0 19 "MixedWords$Acts" "after" "[I", .fieldLink RX0 29 "MixedWords$Acts" "on" "I", .methodLink RX0 36 yX3_at, .instanceMethod yX3_at, .selects RX3 yX3_at yX3_at, .initialized RX3, .code yX3_at cX3_at 3 (some .int), .fieldLink RX3 15 "MixedWords$Mix" "width" "I", .fieldLink RX3 29 "MixedWords$Mix" "heard" "[I", .fieldLink RX3 26 "MixedWords$Mix" "cells" "[[I", .methodLink RX0 42 yX3_put, .instanceMethod yX3_put, .selects RX3 yX3_put yX3_put, .code yX3_put cX3_put 4 none, .fieldLink RX3 21 "MixedWords$Mix" "stamp" "I"] ++ wsX00 ++ wsX30)
noncomputable def wsX0_canGoBack : List Cond := .code yX0_canGoBack cX0_canGoBack 1 (some .boolean) :: ([.fieldLink RX0 26 "MixedWords$Acts" "back" "I"] ++ wsX00)
noncomputable def wsX0_canGoOn : List Cond := .code yX0_canGoOn cX0_canGoOn 1 (some .boolean) :: ([.fieldLink RX0 29 "MixedWords$Acts" "on" "I"] ++ wsX00)
noncomputable def wsX0_goBack : List Cond := .code yX0_goBack cX0_goBack 2 (some .int) :: ([.fieldLink RX0 26 "MixedWords$Acts" "back" "I", .fieldLink RX0 29 "MixedWords$Acts" "on" "I", .fieldLink RX0 22 "MixedWords$Acts" "oldest" "I", .fieldLink RX0 32 "MixedWords$Acts" "mix" "LMixedWords$Mix;", .fieldLink RX0 9 "MixedWords$Acts" "rowOf" "[I", .fieldLink RX0 13 "MixedWords$Acts" "columnOf" "[I", .fieldLink RX0 16 "MixedWords$Acts" "before" "[I", .methodLink RX0 42 yX3_put, .instanceMethod yX3_put, .selects RX3 yX3_put yX3_put, .initialized RX3, .code yX3_put cX3_put 4 none, .fieldLink RX3 15 "MixedWords$Mix" "width" "I", .fieldLink RX3 29 "MixedWords$Mix" "heard" "[I", .fieldLink RX3 26 "MixedWords$Mix" "cells" "[[I", .fieldLink RX3 21 "MixedWords$Mix" "stamp" "I"] ++ wsX00 ++ wsX30)
noncomputable def wsX0_goOn : List Cond := .code yX0_goOn cX0_goOn 2 (some .int) :: ([.fieldLink RX0 22 "MixedWords$Acts" "oldest" "I", .fieldLink RX0 26 "MixedWords$Acts" "back" "I", .fieldLink RX0 29 "MixedWords$Acts" "on" "I", .fieldLink RX0 32 "MixedWords$Acts" "mix" "LMixedWords$Mix;", .fieldLink RX0 9 "MixedWords$Acts" "rowOf" "[I", .fieldLink RX0 13 "MixedWords$Acts" "columnOf" "[I", .fieldLink RX0 19 "MixedWords$Acts" "after" "[I", .methodLink RX0 42 yX3_put, .instanceMethod yX3_put, .selects RX3 yX3_put yX3_put, .initialized RX3, .code yX3_put cX3_put 4 none, .fieldLink RX3 15 "MixedWords$Mix" "width" "I", .fieldLink RX3 29 "MixedWords$Mix" "heard" "[I", .fieldLink RX3 26 "MixedWords$Mix" "cells" "[[I", .fieldLink RX3 21 "MixedWords$Mix" "stamp" "I"] ++ wsX00 ++ wsX30)
noncomputable def wsX1_init : List Cond := .code yX1_init cX1_init 2 none :: ([.methodLink RX1 3 objectInit, .instanceMethod objectInit, .code objectInit ⟨#[0xb1]⟩ 1 none, .classLink RX1 9 "[[I", .arrayClass .int, .fieldLink RX1 11 "MixedWords$Leader" "columns" "[[I", .fieldLink RX1 16 "MixedWords$Leader" "steps" "[[I", .fieldLink RX1 19 "MixedWords$Leader" "target" "[I", .fieldLink RX1 23 "MixedWords$Leader" "stamp" "I", .fieldLink RX1 27 "MixedWords$Leader" "mix" "LMixedWords$Mix;"] ++ wsX10)
noncomputable def wsX1_begin : List Cond := .code yX1_begin cX1_begin 3 none :: ([.fieldLink RX1 37 "MixedWords$Leader" "times" "I", .fieldLink RX1 27 "MixedWords$Leader" "mix" "LMixedWords$Mix;", .fieldLink RX1 44 "MixedWords$Mix" "cells" "[[I", .fieldLink RX1 11 "MixedWords$Leader" "columns" "[[I", .methodLink RX1 47 arraycopyName, .native arraycopyName, .static arraycopyName, .initialized "java/lang/System", .fieldLink RX1 16 "MixedWords$Leader" "steps" "[[I"] ++ wsX10 ++ wsX30)
noncomputable def wsX9_product : List Cond := .code yX9_product cX9_product 6 (some .int) :: ([])
noncomputable def wsX1_quotient : List Cond := .code yX1_quotient cX1_quotient 6 (some .int) :: ([.fieldLink RX1 11 "MixedWords$Leader" "columns" "[[I", .fieldLink RX1 27 "MixedWords$Leader" "mix" "LMixedWords$Mix;", .fieldLink RX1 64 "MixedWords$Mix" "height" "I", .methodLink RX1 71 Lib.Math.abs.name, .static Lib.Math.abs.name, .initialized "java/lang/Math", .code Lib.Math.abs.name Lib.Math.abs.code 1 (some .int), .static yX9_product, .initialized RX9, .code yX9_product cX9_product 6 (some .int)] ++ wsX10 ++ wsX30)
noncomputable def wsX1_shorten : List Cond := .code yX1_shorten cX1_shorten 5 none :: ([.fieldLink RX1 27 "MixedWords$Leader" "mix" "LMixedWords$Mix;", .fieldLink RX1 64 "MixedWords$Mix" "height" "I", .fieldLink RX1 11 "MixedWords$Leader" "columns" "[[I", .fieldLink RX1 53 "MixedWords$Mix" "width" "I", .fieldLink RX1 16 "MixedWords$Leader" "steps" "[[I"] ++ wsX10 ++ wsX30)
noncomputable def wsX1_shortenFirst : List Cond := .code yX1_shortenFirst cX1_shortenFirst 4 (some .boolean) :: ([.fieldLink RX1 27 "MixedWords$Leader" "mix" "LMixedWords$Mix;", .fieldLink RX1 53 "MixedWords$Mix" "width" "I", .methodLink RX1 56 yX1_quotient, .instanceMethod yX1_quotient, .selects RX1 yX1_quotient yX1_quotient, .initialized RX1, .code yX1_quotient cX1_quotient 6 (some .int), .fieldLink RX1 11 "MixedWords$Leader" "columns" "[[I", .fieldLink RX1 64 "MixedWords$Mix" "height" "I", .methodLink RX1 71 Lib.Math.abs.name, .static Lib.Math.abs.name, .initialized "java/lang/Math", .code Lib.Math.abs.name Lib.Math.abs.code 1 (some .int), .static yX9_product, .initialized RX9, .code yX9_product cX9_product 6 (some .int), .methodLink RX1 60 yX1_shorten, .instanceMethod yX1_shorten, .selects RX1 yX1_shorten yX1_shorten, .code yX1_shorten cX1_shorten 5 none, .fieldLink RX1 16 "MixedWords$Leader" "steps" "[[I"] ++ wsX10 ++ wsX30)
noncomputable def wsX1_lead_r1 : List Cond := [Cond.fieldLink RX1 23 "MixedWords$Leader" "stamp" "I", Cond.fieldLink RX1 27 "MixedWords$Leader" "mix" "LMixedWords$Mix;", Cond.fieldLink RX1 31 "MixedWords$Mix" "stamp" "I", Cond.fieldLink RX1 37 "MixedWords$Leader" "times" "I", Cond.methodLink RX1 34 yX1_begin, Cond.instanceMethod yX1_begin, Cond.selects RX1 yX1_begin yX1_begin, Cond.initialized RX1, Cond.code yX1_begin cX1_begin 3 none, Cond.fieldLink RX1 44 "MixedWords$Mix" "cells" "[[I", Cond.fieldLink RX1 11 "MixedWords$Leader" "columns" "[[I", Cond.methodLink RX1 47 arraycopyName, Cond.native arraycopyName, Cond.static arraycopyName, Cond.initialized "java/lang/System", Cond.fieldLink RX1 16 "MixedWords$Leader" "steps" "[[I", Cond.methodLink RX1 40 yX1_shortenFirst, Cond.instanceMethod yX1_shortenFirst, Cond.selects RX1 yX1_shortenFirst yX1_shortenFirst, Cond.code yX1_shortenFirst cX1_shortenFirst 4 (some .boolean), Cond.fieldLink RX1 53 "MixedWords$Mix" "width" "I", Cond.methodLink RX1 56 yX1_quotient, Cond.instanceMethod yX1_quotient, Cond.selects RX1 yX1_quotient yX1_quotient]
noncomputable def wsX1_lead_r2 : List Cond := [Cond.code yX1_quotient cX1_quotient 6 (some .int), Cond.fieldLink RX1 64 "MixedWords$Mix" "height" "I", Cond.methodLink RX1 71 Lib.Math.abs.name, Cond.static Lib.Math.abs.name, Cond.initialized "java/lang/Math", Cond.code Lib.Math.abs.name Lib.Math.abs.code 1 (some .int), Cond.static yX9_product, Cond.initialized RX9, Cond.code yX9_product cX9_product 6 (some .int), Cond.methodLink RX1 60 yX1_shorten, Cond.instanceMethod yX1_shorten, Cond.selects RX1 yX1_shorten yX1_shorten, Cond.code yX1_shorten cX1_shorten 5 none]
noncomputable def wsX1_lead : List Cond := .code yX1_lead cX1_lead 1 none :: ((wsX1_lead_r1 ++ wsX1_lead_r2) ++ wsX10 ++ wsX30)
noncomputable def wsX1_aim : List Cond := .code yX1_aim cX1_aim 4 none :: ([.fieldLink RX1 27 "MixedWords$Leader" "mix" "LMixedWords$Mix;", .fieldLink RX1 64 "MixedWords$Mix" "height" "I", .fieldLink RX1 53 "MixedWords$Mix" "width" "I", .fieldLink RX1 44 "MixedWords$Mix" "cells" "[[I", .fieldLink RX1 19 "MixedWords$Leader" "target" "[I", .fieldLink RX1 77 "MixedWords$Mix" "heard" "[I", .fieldLink RX1 80 "MixedWords$Mix" "letterCount" "I"] ++ wsX10 ++ wsX30)
noncomputable def wsX2_init : List Cond := .code yX2_init cX2_init 1 none :: ([.methodLink RX2 3 objectInit, .instanceMethod objectInit, .code objectInit ⟨#[0xb1]⟩ 1 none, .classLink RX2 9 "[[J", .arrayClass .long, .fieldLink RX2 11 "MixedWords$Least" "square" "[[J", .fieldLink RX2 16 "MixedWords$Least" "right" "[J", .arrayClass .int, .fieldLink RX2 20 "MixedWords$Least" "picked" "[I", .fieldLink RX2 24 "MixedWords$Least" "above" "[J"] ++ wsX20)
noncomputable def wsX2_determinant : List Cond := .code yX2_determinant cX2_determinant 9 (some .long) :: ([.methodLink RX2 44 yX2_determinant, .static yX2_determinant, .initialized RX2])
noncomputable def wsX2_worthOf : List Cond := .code yX2_worthOf cX2_worthOf 6 (some .long) :: ([.fieldLink RX2 27 "MixedWords$Mix" "width" "I", .fieldLink RX2 20 "MixedWords$Least" "picked" "[I", .fieldLink RX2 11 "MixedWords$Least" "square" "[[J", .fieldLink RX2 33 "MixedWords$Mix" "cells" "[[I", .fieldLink RX2 37 "MixedWords$Mix" "height" "I", .static yX9_product, .initialized RX9, .code yX9_product cX9_product 6 (some .int), .methodLink RX2 44 yX2_determinant, .static yX2_determinant, .initialized RX2, .code yX2_determinant cX2_determinant 9 (some .long)] ++ wsX30 ++ wsX20)
noncomputable def wsX2_swapRight : List Cond := .code yX2_swapRight cX2_swapRight 6 none :: ([.fieldLink RX2 11 "MixedWords$Least" "square" "[[J", .fieldLink RX2 16 "MixedWords$Least" "right" "[J"] ++ wsX20)
noncomputable def wsX2_solve : List Cond := .code yX2_solve cX2_solve 7 none :: ([.fieldLink RX2 16 "MixedWords$Least" "right" "[J", .fieldLink RX2 11 "MixedWords$Least" "square" "[[J", .fieldLink RX2 48 "MixedWords$Least" "below" "J", .fieldLink RX2 24 "MixedWords$Least" "above" "[J", .static yX9_product, .initialized RX9, .code yX9_product cX9_product 6 (some .int), .methodLink RX2 44 yX2_determinant, .static yX2_determinant, .initialized RX2, .code yX2_determinant cX2_determinant 9 (some .long), .methodLink RX2 52 yX2_swapRight, .instanceMethod yX2_swapRight, .selects RX2 yX2_swapRight yX2_swapRight, .code yX2_swapRight cX2_swapRight 6 none] ++ wsX20)
noncomputable def wsX3_init : List Cond := .code yX3_init cX3_init 1 none :: ([.methodLink RX3 3 objectInit, .instanceMethod objectInit, .code objectInit ⟨#[0xb1]⟩ 1 none, .fieldLink RX3 9 "MixedWords$Mix" "height" "I", .fieldLink RX3 15 "MixedWords$Mix" "width" "I", .fieldLink RX3 18 "MixedWords$Mix" "letterCount" "I", .fieldLink RX3 21 "MixedWords$Mix" "stamp" "I", .classLink RX3 24 "[[I", .arrayClass .int, .fieldLink RX3 26 "MixedWords$Mix" "cells" "[[I", .fieldLink RX3 29 "MixedWords$Mix" "heard" "[I"] ++ wsX30)
noncomputable def wsX3_hasRow : List Cond := .code yX3_hasRow cX3_hasRow 2 (some .boolean) :: ([.fieldLink RX3 9 "MixedWords$Mix" "height" "I"] ++ wsX30)
noncomputable def wsX3_hasColumn : List Cond := .code yX3_hasColumn cX3_hasColumn 2 (some .boolean) :: ([.fieldLink RX3 15 "MixedWords$Mix" "width" "I"] ++ wsX30)
noncomputable def wsX3_bitsOfLetter : List Cond := .code yX3_bitsOfLetter cX3_bitsOfLetter 1 (some .int) :: ([.fieldLink RX3 18 "MixedWords$Mix" "letterCount" "I"] ++ wsX30)
noncomputable def wsX3_wordCount : List Cond := .code yX3_wordCount cX3_wordCount 1 (some .int) :: ([.fieldLink RX3 15 "MixedWords$Mix" "width" "I", .methodLink RX3 33 yX3_bitsOfLetter, .instanceMethod yX3_bitsOfLetter, .selects RX3 yX3_bitsOfLetter yX3_bitsOfLetter, .initialized RX3, .code yX3_bitsOfLetter cX3_bitsOfLetter 1 (some .int), .fieldLink RX3 18 "MixedWords$Mix" "letterCount" "I"] ++ wsX30)
noncomputable def wsX3_follow : List Cond := .code yX3_follow cX3_follow 3 (some .int) :: ([.fieldLink RX3 18 "MixedWords$Mix" "letterCount" "I"] ++ wsX30)
noncomputable def wsX3_choose : List Cond := .code yX3_choose cX3_choose 2 none :: ([.fieldLink RX3 18 "MixedWords$Mix" "letterCount" "I", .fieldLink RX3 21 "MixedWords$Mix" "stamp" "I"] ++ wsX30)
noncomputable def wsJ7_fill_53178 : List Cond := .code yJ7_fill_53178 cJ7_fill_53178 4 none :: ([])
noncomputable def wsX3_reshape : List Cond := .code yX3_reshape cX3_reshape 4 none :: ([.fieldLink RX3 9 "MixedWords$Mix" "height" "I", .fieldLink RX3 15 "MixedWords$Mix" "width" "I", .fieldLink RX3 26 "MixedWords$Mix" "cells" "[[I", .fieldLink RX3 29 "MixedWords$Mix" "heard" "[I", .fieldLink RX3 21 "MixedWords$Mix" "stamp" "I", .methodLink RX3 37 yJ7_fill_53178, .static yJ7_fill_53178, .initialized RJ7, .code yJ7_fill_53178 cJ7_fill_53178 4 none] ++ wsX30)
noncomputable def wsX9_within : List Cond := .code yX9_within cX9_within 3 (some .boolean) :: ([])
noncomputable def wsX3_takes : List Cond := .code yX3_takes cX3_takes 6 (some .boolean) :: ([.fieldLink RX3 9 "MixedWords$Mix" "height" "I", .fieldLink RX3 15 "MixedWords$Mix" "width" "I", .static yX9_within, .initialized RX9, .code yX9_within cX9_within 3 (some .boolean)] ++ wsX30)
noncomputable def wsX3_copy : List Cond := .code yX3_copy cX3_copy 6 none :: ([.fieldLink RX3 9 "MixedWords$Mix" "height" "I", .fieldLink RX3 15 "MixedWords$Mix" "width" "I", .methodLink RX3 47 yX3_put, .instanceMethod yX3_put, .selects RX3 yX3_put yX3_put, .initialized RX3, .code yX3_put cX3_put 4 none, .fieldLink RX3 29 "MixedWords$Mix" "heard" "[I", .fieldLink RX3 26 "MixedWords$Mix" "cells" "[[I", .fieldLink RX3 21 "MixedWords$Mix" "stamp" "I"] ++ wsX30)
noncomputable def wsX4_init : List Cond := .code yX4_init cX4_init 2 none :: ([.methodLink RX4 3 objectInit, .instanceMethod objectInit, .code objectInit ⟨#[0xb1]⟩ 1 none, .classLink RX4 9 "[[I", .arrayClass .int, .fieldLink RX4 11 "MixedWords$Reader" "cells" "[[I", .fieldLink RX4 16 "MixedWords$Reader" "tape" "LMixedWords$Tape;"] ++ wsX40)
noncomputable def wsX7_at : List Cond := .code yX7_at cX7_at 2 (some .int) :: ([.fieldLink RX7 13 "MixedWords$Tape" "length" "I", .fieldLink RX7 9 "MixedWords$Tape" "bytes" "[B"] ++ wsX70)
noncomputable def wsX4_skipBlanks : List Cond := .code yX4_skipBlanks cX4_skipBlanks 1 none :: ([.fieldLink RX4 30 "MixedWords$Reader" "place" "I", .fieldLink RX4 16 "MixedWords$Reader" "tape" "LMixedWords$Tape;", .fieldLink RX4 55 "MixedWords$Tape" "length" "I", .methodLink RX4 40 yX7_at, .instanceMethod yX7_at, .selects RX7 yX7_at yX7_at, .initialized RX7, .code yX7_at cX7_at 2 (some .int), .fieldLink RX7 13 "MixedWords$Tape" "length" "I", .fieldLink RX7 9 "MixedWords$Tape" "bytes" "[B"] ++ wsX40 ++ wsX70)
noncomputable def wsX4_isDigit : List Cond := .code yX4_isDigit cX4_isDigit 1 (some .boolean) :: ([.fieldLink RX4 16 "MixedWords$Reader" "tape" "LMixedWords$Tape;", .fieldLink RX4 30 "MixedWords$Reader" "place" "I", .methodLink RX4 40 yX7_at, .instanceMethod yX7_at, .selects RX7 yX7_at yX7_at, .initialized RX7, .code yX7_at cX7_at 2 (some .int), .fieldLink RX7 13 "MixedWords$Tape" "length" "I", .fieldLink RX7 9 "MixedWords$Tape" "bytes" "[B"] ++ wsX40 ++ wsX70)
noncomputable def wsX4_takeNumber_r1 : List Cond := [Cond.fieldLink RX4 16 "MixedWords$Reader" "tape" "LMixedWords$Tape;", Cond.fieldLink RX4 30 "MixedWords$Reader" "place" "I", Cond.fieldLink RX4 20 "MixedWords$Reader" "height" "I", Cond.fieldLink RX4 27 "MixedWords$Reader" "inRow" "I", Cond.fieldLink RX4 55 "MixedWords$Tape" "length" "I", Cond.methodLink RX4 61 Lib.Math.min.name, Cond.static Lib.Math.min.name, Cond.initialized "java/lang/Math", Cond.code Lib.Math.min.name Lib.Math.min.code 2 (some .int), Cond.fieldLink RX4 11 "MixedWords$Reader" "cells" "[[I", Cond.methodLink RX4 37 yX4_skipBlanks, Cond.instanceMethod yX4_skipBlanks, Cond.selects RX4 yX4_skipBlanks yX4_skipBlanks, Cond.initialized RX4, Cond.code yX4_skipBlanks cX4_skipBlanks 1 none, Cond.methodLink RX4 40 yX7_at, Cond.instanceMethod yX7_at, Cond.selects RX7 yX7_at yX7_at, Cond.initialized RX7, Cond.code yX7_at cX7_at 2 (some .int), Cond.fieldLink RX7 13 "MixedWords$Tape" "length" "I", Cond.fieldLink RX7 9 "MixedWords$Tape" "bytes" "[B", Cond.methodLink RX4 58 yX4_isDigit, Cond.instanceMethod yX4_isDigit]
noncomputable def wsX4_takeNumber_r2 : List Cond := [Cond.selects RX4 yX4_isDigit yX4_isDigit, Cond.code yX4_isDigit cX4_isDigit 1 (some .boolean)]
noncomputable def wsX4_takeNumber : List Cond := .code yX4_takeNumber cX4_takeNumber 4 (some .boolean) :: ((wsX4_takeNumber_r1 ++ wsX4_takeNumber_r2) ++ wsX40 ++ wsX70)
noncomputable def wsX4_isRowWhole : List Cond := .code yX4_isRowWhole cX4_isRowWhole 1 (some .boolean) :: ([.fieldLink RX4 20 "MixedWords$Reader" "height" "I", .fieldLink RX4 27 "MixedWords$Reader" "inRow" "I", .fieldLink RX4 24 "MixedWords$Reader" "width" "I"] ++ wsX40)
noncomputable def wsX4_endRow : List Cond := .code yX4_endRow cX4_endRow 1 none :: ([.fieldLink RX4 27 "MixedWords$Reader" "inRow" "I", .fieldLink RX4 24 "MixedWords$Reader" "width" "I", .fieldLink RX4 20 "MixedWords$Reader" "height" "I"] ++ wsX40)
noncomputable def wsX4_takeSign : List Cond := .code yX4_takeSign cX4_takeSign 2 (some .boolean) :: ([.fieldLink RX4 16 "MixedWords$Reader" "tape" "LMixedWords$Tape;", .fieldLink RX4 30 "MixedWords$Reader" "place" "I", .fieldLink RX4 27 "MixedWords$Reader" "inRow" "I", .fieldLink RX4 20 "MixedWords$Reader" "height" "I", .fieldLink RX4 24 "MixedWords$Reader" "width" "I", .methodLink RX4 40 yX7_at, .instanceMethod yX7_at, .selects RX7 yX7_at yX7_at, .initialized RX7, .code yX7_at cX7_at 2 (some .int), .fieldLink RX7 13 "MixedWords$Tape" "length" "I", .fieldLink RX7 9 "MixedWords$Tape" "bytes" "[B", .methodLink RX4 46 yX4_isRowWhole, .instanceMethod yX4_isRowWhole, .selects RX4 yX4_isRowWhole yX4_isRowWhole, .initialized RX4, .code yX4_isRowWhole cX4_isRowWhole 1 (some .boolean), .methodLink RX4 49 yX4_endRow, .instanceMethod yX4_endRow, .selects RX4 yX4_endRow yX4_endRow, .code yX4_endRow cX4_endRow 1 none] ++ wsX40 ++ wsX70)
noncomputable def wsX4_parse_r1 : List Cond := [Cond.fieldLink RX4 20 "MixedWords$Reader" "height" "I", Cond.fieldLink RX4 24 "MixedWords$Reader" "width" "I", Cond.fieldLink RX4 27 "MixedWords$Reader" "inRow" "I", Cond.fieldLink RX4 30 "MixedWords$Reader" "place" "I", Cond.fieldLink RX4 16 "MixedWords$Reader" "tape" "LMixedWords$Tape;", Cond.methodLink RX4 33 yX4_takeNumber, Cond.instanceMethod yX4_takeNumber, Cond.selects RX4 yX4_takeNumber yX4_takeNumber, Cond.initialized RX4, Cond.code yX4_takeNumber cX4_takeNumber 4 (some .boolean), Cond.fieldLink RX4 55 "MixedWords$Tape" "length" "I", Cond.methodLink RX4 61 Lib.Math.min.name, Cond.static Lib.Math.min.name, Cond.initialized "java/lang/Math", Cond.code Lib.Math.min.name Lib.Math.min.code 2 (some .int), Cond.fieldLink RX4 11 "MixedWords$Reader" "cells" "[[I", Cond.methodLink RX4 37 yX4_skipBlanks, Cond.instanceMethod yX4_skipBlanks, Cond.selects RX4 yX4_skipBlanks yX4_skipBlanks, Cond.code yX4_skipBlanks cX4_skipBlanks 1 none, Cond.methodLink RX4 40 yX7_at, Cond.instanceMethod yX7_at, Cond.selects RX7 yX7_at yX7_at, Cond.initialized RX7]
noncomputable def wsX4_parse_r2 : List Cond := [Cond.code yX7_at cX7_at 2 (some .int), Cond.fieldLink RX7 13 "MixedWords$Tape" "length" "I", Cond.fieldLink RX7 9 "MixedWords$Tape" "bytes" "[B", Cond.methodLink RX4 58 yX4_isDigit, Cond.instanceMethod yX4_isDigit, Cond.selects RX4 yX4_isDigit yX4_isDigit, Cond.code yX4_isDigit cX4_isDigit 1 (some .boolean), Cond.methodLink RX4 46 yX4_isRowWhole, Cond.instanceMethod yX4_isRowWhole, Cond.selects RX4 yX4_isRowWhole yX4_isRowWhole, Cond.code yX4_isRowWhole cX4_isRowWhole 1 (some .boolean), Cond.methodLink RX4 49 yX4_endRow, Cond.instanceMethod yX4_endRow, Cond.selects RX4 yX4_endRow yX4_endRow, Cond.code yX4_endRow cX4_endRow 1 none, Cond.methodLink RX4 52 yX4_takeSign, Cond.instanceMethod yX4_takeSign, Cond.selects RX4 yX4_takeSign yX4_takeSign, Cond.code yX4_takeSign cX4_takeSign 2 (some .boolean)]
noncomputable def wsX4_parse : List Cond := .code yX4_parse cX4_parse 2 (some .int) :: ((wsX4_parse_r1 ++ wsX4_parse_r2) ++ wsX40 ++ wsX70)
noncomputable def wsX5_init : List Cond := .code yX5_init cX5_init 1 none :: ([.methodLink RX5 3 objectInit, .instanceMethod objectInit, .code objectInit ⟨#[0xb1]⟩ 1 none, .fieldLink RX5 11 "MixedWords$Sheet" "lane" "I", .fieldLink RX5 15 "MixedWords$Sheet" "length" "I", .arrayClass .long, .fieldLink RX5 18 "MixedWords$Sheet" "items" "[J"] ++ wsX50)
noncomputable def wsX5_holds : List Cond := .code yX5_holds cX5_holds 1 (some .boolean) :: ([.fieldLink RX5 11 "MixedWords$Sheet" "lane" "I"] ++ wsX50)
noncomputable def wsJ7_fill_d0a16 : List Cond := .code yJ7_fill_d0a16 cJ7_fill_d0a16 5 none :: ([])
noncomputable def wsX5_renew : List Cond := .code yX5_renew cX5_renew 3 none :: ([.fieldLink RX5 11 "MixedWords$Sheet" "lane" "I", .fieldLink RX5 15 "MixedWords$Sheet" "length" "I", .fieldLink RX5 18 "MixedWords$Sheet" "items" "[J", .methodLink RX5 22 yJ7_fill_d0a16, .static yJ7_fill_d0a16, .initialized RJ7, .code yJ7_fill_d0a16 cJ7_fill_d0a16 5 none] ++ wsX50)
noncomputable def wsX5_empty : List Cond := .code yX5_empty cX5_empty 1 none :: ([.fieldLink RX5 11 "MixedWords$Sheet" "lane" "I", .fieldLink RX5 15 "MixedWords$Sheet" "length" "I"] ++ wsX50)
noncomputable def wsX5_put : List Cond := .code yX5_put cX5_put 3 none :: ([.fieldLink RX5 18 "MixedWords$Sheet" "items" "[J", .fieldLink RX5 11 "MixedWords$Sheet" "lane" "I"] ++ wsX50)
noncomputable def wsX6_init : List Cond := .code yX6_init cX6_init 2 none :: ([.methodLink RX6 3 objectInit, .instanceMethod objectInit, .code objectInit ⟨#[0xb1]⟩ 1 none, .arrayClass .int, .fieldLink RX6 9 "MixedWords$Taker" "left" "[I", .fieldLink RX6 15 "MixedWords$Taker" "sequence" "[I", .fieldLink RX6 18 "MixedWords$Taker" "indexes" "[I", .fieldLink RX6 21 "MixedWords$Taker" "mix" "LMixedWords$Mix;"] ++ wsX60)
noncomputable def wsX6_greatest : List Cond := .code yX6_greatest cX6_greatest 6 (some .int) :: ([.fieldLink RX6 21 "MixedWords$Taker" "mix" "LMixedWords$Mix;", .fieldLink RX6 36 "MixedWords$Mix" "width" "I", .fieldLink RX6 48 "MixedWords$Mix" "cells" "[[I", .fieldLink RX6 52 "MixedWords$Mix" "height" "I", .static yX9_product, .initialized RX9, .code yX9_product cX9_product 6 (some .int)] ++ wsX60 ++ wsX30)
noncomputable def wsJ9_floorDiv_f86c9 : List Cond := .code yJ9_floorDiv_f86c9 cJ9_floorDiv_f86c9 6 (some .long) :: ([])
noncomputable def wsX9_roundedUp : List Cond := .code yX9_roundedUp cX9_roundedUp 4 (some .long) :: ([.methodLink RX9 308 yJ9_floorDiv_f86c9, .static yJ9_floorDiv_f86c9, .initialized RJ9, .code yJ9_floorDiv_f86c9 cJ9_floorDiv_f86c9 6 (some .long)])
noncomputable def wsX9_held : List Cond := .code yX9_held cX9_held 3 (some .int) :: ([.methodLink RX9 311 Lib.MathLoose.min_long.x, .static Lib.MathLoose.min_long.x, .initialized "java/lang/Math", .code Lib.MathLoose.min_long.x Lib.MathLoose.min_long.code 4 (some .long), .methodLink RX9 221 Lib.MathLoose.max_long.x, .static Lib.MathLoose.max_long.x, .code Lib.MathLoose.max_long.x Lib.MathLoose.max_long.code 4 (some .long)])
noncomputable def wsX9_nearestLetter : List Cond := .code yX9_nearestLetter cX9_nearestLetter 5 (some .int) :: ([.constantLong RX9 303 (2), .methodLink RX9 305 yX9_roundedUp, .static yX9_roundedUp, .initialized RX9, .code yX9_roundedUp cX9_roundedUp 4 (some .long), .methodLink RX9 308 yJ9_floorDiv_f86c9, .static yJ9_floorDiv_f86c9, .initialized RJ9, .code yJ9_floorDiv_f86c9 cJ9_floorDiv_f86c9 6 (some .long), .methodLink RX9 255 yX9_held, .static yX9_held, .code yX9_held cX9_held 3 (some .int), .methodLink RX9 311 Lib.MathLoose.min_long.x, .static Lib.MathLoose.min_long.x, .initialized "java/lang/Math", .code Lib.MathLoose.min_long.x Lib.MathLoose.min_long.code 4 (some .long), .methodLink RX9 221 Lib.MathLoose.max_long.x, .static Lib.MathLoose.max_long.x, .code Lib.MathLoose.max_long.x Lib.MathLoose.max_long.code 4 (some .long)])
noncomputable def wsX6_takeOff_r1 : List Cond := [Cond.fieldLink RX6 21 "MixedWords$Taker" "mix" "LMixedWords$Mix;", Cond.fieldLink RX6 52 "MixedWords$Mix" "height" "I", Cond.fieldLink RX6 48 "MixedWords$Mix" "cells" "[[I", Cond.fieldLink RX6 9 "MixedWords$Taker" "left" "[I", Cond.methodLink RX6 59 Lib.Math.max.name, Cond.static Lib.Math.max.name, Cond.initialized "java/lang/Math", Cond.code Lib.Math.max.name Lib.Math.max.code 2 (some .int), Cond.fieldLink RX6 18 "MixedWords$Taker" "indexes" "[I", Cond.fieldLink RX6 65 "MixedWords$Mix" "letterCount" "I", Cond.static yX9_product, Cond.initialized RX9, Cond.code yX9_product cX9_product 6 (some .int), Cond.static yX9_nearestLetter, Cond.code yX9_nearestLetter cX9_nearestLetter 5 (some .int), Cond.constantLong RX9 303 (2), Cond.methodLink RX9 305 yX9_roundedUp, Cond.static yX9_roundedUp, Cond.code yX9_roundedUp cX9_roundedUp 4 (some .long), Cond.methodLink RX9 308 yJ9_floorDiv_f86c9, Cond.static yJ9_floorDiv_f86c9, Cond.initialized RJ9, Cond.code yJ9_floorDiv_f86c9 cJ9_floorDiv_f86c9 6 (some .long), Cond.methodLink RX9 255 yX9_held]
noncomputable def wsX6_takeOff_r2 : List Cond := [Cond.static yX9_held, Cond.code yX9_held cX9_held 3 (some .int), Cond.methodLink RX9 311 Lib.MathLoose.min_long.x, Cond.static Lib.MathLoose.min_long.x, Cond.code Lib.MathLoose.min_long.x Lib.MathLoose.min_long.code 4 (some .long), Cond.methodLink RX9 221 Lib.MathLoose.max_long.x, Cond.static Lib.MathLoose.max_long.x, Cond.code Lib.MathLoose.max_long.x Lib.MathLoose.max_long.code 4 (some .long)]
noncomputable def wsX6_takeOff : List Cond := .code yX6_takeOff cX6_takeOff 6 none :: ((wsX6_takeOff_r1 ++ wsX6_takeOff_r2) ++ wsX60 ++ wsX30)
noncomputable def wsX6_takeAll_r1 : List Cond := [Cond.fieldLink RX6 21 "MixedWords$Taker" "mix" "LMixedWords$Mix;", Cond.fieldLink RX6 25 "MixedWords$Mix" "heard" "[I", Cond.fieldLink RX6 9 "MixedWords$Taker" "left" "[I", Cond.methodLink RX6 30 arraycopyName, Cond.native arraycopyName, Cond.static arraycopyName, Cond.initialized "java/lang/System", Cond.fieldLink RX6 36 "MixedWords$Mix" "width" "I", Cond.fieldLink RX6 15 "MixedWords$Taker" "sequence" "[I", Cond.methodLink RX6 40 yX6_greatest, Cond.instanceMethod yX6_greatest, Cond.selects RX6 yX6_greatest yX6_greatest, Cond.initialized RX6, Cond.code yX6_greatest cX6_greatest 6 (some .int), Cond.fieldLink RX6 48 "MixedWords$Mix" "cells" "[[I", Cond.fieldLink RX6 52 "MixedWords$Mix" "height" "I", Cond.static yX9_product, Cond.initialized RX9, Cond.code yX9_product cX9_product 6 (some .int), Cond.methodLink RX6 44 yX6_takeOff, Cond.instanceMethod yX6_takeOff, Cond.selects RX6 yX6_takeOff yX6_takeOff, Cond.code yX6_takeOff cX6_takeOff 6 none, Cond.methodLink RX6 59 Lib.Math.max.name]
noncomputable def wsX6_takeAll_r2 : List Cond := [Cond.static Lib.Math.max.name, Cond.initialized "java/lang/Math", Cond.code Lib.Math.max.name Lib.Math.max.code 2 (some .int), Cond.fieldLink RX6 18 "MixedWords$Taker" "indexes" "[I", Cond.fieldLink RX6 65 "MixedWords$Mix" "letterCount" "I", Cond.static yX9_nearestLetter, Cond.code yX9_nearestLetter cX9_nearestLetter 5 (some .int), Cond.constantLong RX9 303 (2), Cond.methodLink RX9 305 yX9_roundedUp, Cond.static yX9_roundedUp, Cond.code yX9_roundedUp cX9_roundedUp 4 (some .long), Cond.methodLink RX9 308 yJ9_floorDiv_f86c9, Cond.static yJ9_floorDiv_f86c9, Cond.initialized RJ9, Cond.code yJ9_floorDiv_f86c9 cJ9_floorDiv_f86c9 6 (some .long), Cond.methodLink RX9 255 yX9_held, Cond.static yX9_held, Cond.code yX9_held cX9_held 3 (some .int), Cond.methodLink RX9 311 Lib.MathLoose.min_long.x, Cond.static Lib.MathLoose.min_long.x, Cond.code Lib.MathLoose.min_long.x Lib.MathLoose.min_long.code 4 (some .long), Cond.methodLink RX9 221 Lib.MathLoose.max_long.x, Cond.static Lib.MathLoose.max_long.x, Cond.code Lib.MathLoose.max_long.x Lib.MathLoose.max_long.code 4 (some .long)]
noncomputable def wsX6_takeAll : List Cond := .code yX6_takeAll cX6_takeAll 4 none :: ((wsX6_takeAll_r1 ++ wsX6_takeAll_r2) ++ wsX60 ++ wsX30)
noncomputable def wsX7_init : List Cond := .code yX7_init cX7_init 1 none :: ([.methodLink RX7 1 objectInit, .instanceMethod objectInit, .code objectInit ⟨#[0xb1]⟩ 1 none, .arrayClass .byte, .fieldLink RX7 9 "MixedWords$Tape" "bytes" "[B", .fieldLink RX7 13 "MixedWords$Tape" "length" "I"] ++ wsX70)
noncomputable def wsX7_byteOf : List Cond := .code yX7_byteOf cX7_byteOf 3 (some .int) :: ([.constantLong RX7 21 (255)])
noncomputable def wsX7_takes : List Cond := .code yX7_takes cX7_takes 5 (some .boolean) :: ([.methodLink RX7 17 yX7_byteOf, .static yX7_byteOf, .initialized RX7, .code yX7_byteOf cX7_byteOf 3 (some .int), .constantLong RX7 21 (255)])
noncomputable def wsX7_hasRoom : List Cond := .code yX7_hasRoom cX7_hasRoom 2 (some .boolean) :: ([.fieldLink RX7 13 "MixedWords$Tape" "length" "I"] ++ wsX70)
noncomputable def wsX7_append : List Cond := .code yX7_append cX7_append 5 (some .int) :: ([.fieldLink RX7 9 "MixedWords$Tape" "bytes" "[B", .fieldLink RX7 13 "MixedWords$Tape" "length" "I", .methodLink RX7 17 yX7_byteOf, .static yX7_byteOf, .initialized RX7, .code yX7_byteOf cX7_byteOf 3 (some .int), .constantLong RX7 21 (255)] ++ wsX70)
noncomputable def wsX7_clear : List Cond := .code yX7_clear cX7_clear 1 none :: ([.fieldLink RX7 13 "MixedWords$Tape" "length" "I"] ++ wsX70)
noncomputable def wsX8_init : List Cond := .code yX8_init cX8_init 2 none :: ([.methodLink RX8 3 objectInit, .instanceMethod objectInit, .code objectInit ⟨#[0xb1]⟩ 1 none, .arrayClass .int, .fieldLink RX8 9 "MixedWords$Words" "offs" "[I", .fieldLink RX8 15 "MixedWords$Words" "byOff" "[I", .fieldLink RX8 18 "MixedWords$Words" "spare" "[I", .fieldLink RX8 21 "MixedWords$Words" "offsStamp" "I", .fieldLink RX8 25 "MixedWords$Words" "byOffStamp" "I", .fieldLink RX8 28 "MixedWords$Words" "mix" "LMixedWords$Mix;"] ++ wsX80)
noncomputable def wsX8_indexOf : List Cond := .code yX8_indexOf cX8_indexOf 3 (some .int) :: ([.fieldLink RX8 28 "MixedWords$Words" "mix" "LMixedWords$Mix;", .fieldLink RX8 40 "MixedWords$Mix" "width" "I", .fieldLink RX8 51 "MixedWords$Mix" "letterCount" "I", .methodLink RX8 54 yX3_bitsOfLetter, .instanceMethod yX3_bitsOfLetter, .selects RX3 yX3_bitsOfLetter yX3_bitsOfLetter, .initialized RX3, .code yX3_bitsOfLetter cX3_bitsOfLetter 1 (some .int), .fieldLink RX3 18 "MixedWords$Mix" "letterCount" "I"] ++ wsX80 ++ wsX30)
noncomputable def wsX8_offOf : List Cond := .code yX8_offOf cX8_offOf 6 (some .int) :: ([.fieldLink RX8 28 "MixedWords$Words" "mix" "LMixedWords$Mix;", .fieldLink RX8 32 "MixedWords$Mix" "height" "I", .fieldLink RX8 37 "MixedWords$Mix" "heard" "[I", .fieldLink RX8 40 "MixedWords$Mix" "width" "I", .fieldLink RX8 43 "MixedWords$Mix" "cells" "[[I", .fieldLink RX8 51 "MixedWords$Mix" "letterCount" "I", .methodLink RX8 47 yX8_indexOf, .instanceMethod yX8_indexOf, .selects RX8 yX8_indexOf yX8_indexOf, .initialized RX8, .code yX8_indexOf cX8_indexOf 3 (some .int), .methodLink RX8 54 yX3_bitsOfLetter, .instanceMethod yX3_bitsOfLetter, .selects RX3 yX3_bitsOfLetter yX3_bitsOfLetter, .initialized RX3, .code yX3_bitsOfLetter cX3_bitsOfLetter 1 (some .int), .fieldLink RX3 18 "MixedWords$Mix" "letterCount" "I"] ++ wsX80 ++ wsX30)
noncomputable def wsX8_bitOf : List Cond := .code yX8_bitOf cX8_bitOf 5 (some .int) :: ([.fieldLink RX8 28 "MixedWords$Words" "mix" "LMixedWords$Mix;", .fieldLink RX8 51 "MixedWords$Mix" "letterCount" "I", .methodLink RX8 47 yX8_indexOf, .instanceMethod yX8_indexOf, .selects RX8 yX8_indexOf yX8_indexOf, .initialized RX8, .code yX8_indexOf cX8_indexOf 3 (some .int), .fieldLink RX8 40 "MixedWords$Mix" "width" "I", .methodLink RX8 54 yX3_bitsOfLetter, .instanceMethod yX3_bitsOfLetter, .selects RX3 yX3_bitsOfLetter yX3_bitsOfLetter, .initialized RX3, .code yX3_bitsOfLetter cX3_bitsOfLetter 1 (some .int), .fieldLink RX3 18 "MixedWords$Mix" "letterCount" "I"] ++ wsX80 ++ wsX30)
noncomputable def wsX8_workOutOffs_r1 : List Cond := [Cond.fieldLink RX8 21 "MixedWords$Words" "offsStamp" "I", Cond.fieldLink RX8 28 "MixedWords$Words" "mix" "LMixedWords$Mix;", Cond.fieldLink RX8 77 "MixedWords$Mix" "stamp" "I", Cond.fieldLink RX8 9 "MixedWords$Words" "offs" "[I", Cond.methodLink RX8 62 yX3_wordCount, Cond.instanceMethod yX3_wordCount, Cond.selects RX3 yX3_wordCount yX3_wordCount, Cond.initialized RX3, Cond.code yX3_wordCount cX3_wordCount 1 (some .int), Cond.fieldLink RX3 15 "MixedWords$Mix" "width" "I", Cond.methodLink RX3 33 yX3_bitsOfLetter, Cond.instanceMethod yX3_bitsOfLetter, Cond.selects RX3 yX3_bitsOfLetter yX3_bitsOfLetter, Cond.code yX3_bitsOfLetter cX3_bitsOfLetter 1 (some .int), Cond.fieldLink RX3 18 "MixedWords$Mix" "letterCount" "I", Cond.methodLink RX8 80 yX8_offOf, Cond.instanceMethod yX8_offOf, Cond.selects RX8 yX8_offOf yX8_offOf, Cond.initialized RX8, Cond.code yX8_offOf cX8_offOf 6 (some .int), Cond.fieldLink RX8 32 "MixedWords$Mix" "height" "I", Cond.fieldLink RX8 37 "MixedWords$Mix" "heard" "[I", Cond.fieldLink RX8 40 "MixedWords$Mix" "width" "I", Cond.fieldLink RX8 43 "MixedWords$Mix" "cells" "[[I"]
noncomputable def wsX8_workOutOffs_r2 : List Cond := [Cond.fieldLink RX8 51 "MixedWords$Mix" "letterCount" "I", Cond.methodLink RX8 47 yX8_indexOf, Cond.instanceMethod yX8_indexOf, Cond.selects RX8 yX8_indexOf yX8_indexOf, Cond.code yX8_indexOf cX8_indexOf 3 (some .int), Cond.methodLink RX8 54 yX3_bitsOfLetter]
noncomputable def wsX8_workOutOffs : List Cond := .code yX8_workOutOffs cX8_workOutOffs 2 none :: ((wsX8_workOutOffs_r1 ++ wsX8_workOutOffs_r2) ++ wsX80 ++ wsX30)
noncomputable def wsX8_leastWith_r1 : List Cond := [Cond.constant RX8 61 (10000000), Cond.fieldLink RX8 28 "MixedWords$Words" "mix" "LMixedWords$Mix;", Cond.fieldLink RX8 9 "MixedWords$Words" "offs" "[I", Cond.methodLink RX8 69 Lib.Math.min.name, Cond.static Lib.Math.min.name, Cond.initialized "java/lang/Math", Cond.code Lib.Math.min.name Lib.Math.min.code 2 (some .int), Cond.methodLink RX8 58 yX8_workOutOffs, Cond.instanceMethod yX8_workOutOffs, Cond.selects RX8 yX8_workOutOffs yX8_workOutOffs, Cond.initialized RX8, Cond.code yX8_workOutOffs cX8_workOutOffs 2 none, Cond.fieldLink RX8 21 "MixedWords$Words" "offsStamp" "I", Cond.fieldLink RX8 77 "MixedWords$Mix" "stamp" "I", Cond.methodLink RX8 62 yX3_wordCount, Cond.instanceMethod yX3_wordCount, Cond.selects RX3 yX3_wordCount yX3_wordCount, Cond.initialized RX3, Cond.code yX3_wordCount cX3_wordCount 1 (some .int), Cond.fieldLink RX3 15 "MixedWords$Mix" "width" "I", Cond.methodLink RX3 33 yX3_bitsOfLetter, Cond.instanceMethod yX3_bitsOfLetter, Cond.selects RX3 yX3_bitsOfLetter yX3_bitsOfLetter, Cond.code yX3_bitsOfLetter cX3_bitsOfLetter 1 (some .int)]
noncomputable def wsX8_leastWith_r2 : List Cond := [Cond.fieldLink RX3 18 "MixedWords$Mix" "letterCount" "I", Cond.methodLink RX8 80 yX8_offOf, Cond.instanceMethod yX8_offOf, Cond.selects RX8 yX8_offOf yX8_offOf, Cond.code yX8_offOf cX8_offOf 6 (some .int), Cond.fieldLink RX8 32 "MixedWords$Mix" "height" "I", Cond.fieldLink RX8 37 "MixedWords$Mix" "heard" "[I", Cond.fieldLink RX8 40 "MixedWords$Mix" "width" "I", Cond.fieldLink RX8 43 "MixedWords$Mix" "cells" "[[I", Cond.fieldLink RX8 51 "MixedWords$Mix" "letterCount" "I", Cond.methodLink RX8 47 yX8_indexOf, Cond.instanceMethod yX8_indexOf, Cond.selects RX8 yX8_indexOf yX8_indexOf, Cond.code yX8_indexOf cX8_indexOf 3 (some .int), Cond.methodLink RX8 54 yX3_bitsOfLetter, Cond.methodLink RX8 65 yX8_bitOf, Cond.instanceMethod yX8_bitOf, Cond.selects RX8 yX8_bitOf yX8_bitOf, Cond.code yX8_bitOf cX8_bitOf 5 (some .int)]
noncomputable def wsX8_leastWith : List Cond := .code yX8_leastWith cX8_leastWith 6 (some .int) :: ((wsX8_leastWith_r1 ++ wsX8_leastWith_r2) ++ wsX80 ++ wsX30)
noncomputable def wsX8_mergeRuns : List Cond := .code yX8_mergeRuns cX8_mergeRuns 7 none :: ([.fieldLink RX8 9 "MixedWords$Words" "offs" "[I", .fieldLink RX8 15 "MixedWords$Words" "byOff" "[I", .fieldLink RX8 18 "MixedWords$Words" "spare" "[I"] ++ wsX80)
noncomputable def wsX8_sortByOff_r1 : List Cond := [Cond.fieldLink RX8 25 "MixedWords$Words" "byOffStamp" "I", Cond.fieldLink RX8 28 "MixedWords$Words" "mix" "LMixedWords$Mix;", Cond.fieldLink RX8 77 "MixedWords$Mix" "stamp" "I", Cond.fieldLink RX8 15 "MixedWords$Words" "byOff" "[I", Cond.methodLink RX8 69 Lib.Math.min.name, Cond.static Lib.Math.min.name, Cond.initialized "java/lang/Math", Cond.code Lib.Math.min.name Lib.Math.min.code 2 (some .int), Cond.fieldLink RX8 18 "MixedWords$Words" "spare" "[I", Cond.methodLink RX8 88 arraycopyName, Cond.native arraycopyName, Cond.static arraycopyName, Cond.initialized "java/lang/System", Cond.methodLink RX8 62 yX3_wordCount, Cond.instanceMethod yX3_wordCount, Cond.selects RX3 yX3_wordCount yX3_wordCount, Cond.initialized RX3, Cond.code yX3_wordCount cX3_wordCount 1 (some .int), Cond.fieldLink RX3 15 "MixedWords$Mix" "width" "I", Cond.methodLink RX3 33 yX3_bitsOfLetter, Cond.instanceMethod yX3_bitsOfLetter, Cond.selects RX3 yX3_bitsOfLetter yX3_bitsOfLetter, Cond.code yX3_bitsOfLetter cX3_bitsOfLetter 1 (some .int), Cond.fieldLink RX3 18 "MixedWords$Mix" "letterCount" "I"]
noncomputable def wsX8_sortByOff_r2 : List Cond := [Cond.methodLink RX8 84 yX8_mergeRuns, Cond.instanceMethod yX8_mergeRuns, Cond.selects RX8 yX8_mergeRuns yX8_mergeRuns, Cond.initialized RX8, Cond.code yX8_mergeRuns cX8_mergeRuns 7 none, Cond.fieldLink RX8 9 "MixedWords$Words" "offs" "[I"]
noncomputable def wsX8_sortByOff : List Cond := .code yX8_sortByOff cX8_sortByOff 4 none :: ((wsX8_sortByOff_r1 ++ wsX8_sortByOff_r2) ++ wsX80 ++ wsX30)
noncomputable def wsX8_ranked_r1 : List Cond := [Cond.fieldLink RX8 15 "MixedWords$Words" "byOff" "[I", Cond.methodLink RX8 58 yX8_workOutOffs, Cond.instanceMethod yX8_workOutOffs, Cond.selects RX8 yX8_workOutOffs yX8_workOutOffs, Cond.initialized RX8, Cond.code yX8_workOutOffs cX8_workOutOffs 2 none, Cond.fieldLink RX8 21 "MixedWords$Words" "offsStamp" "I", Cond.fieldLink RX8 28 "MixedWords$Words" "mix" "LMixedWords$Mix;", Cond.fieldLink RX8 77 "MixedWords$Mix" "stamp" "I", Cond.fieldLink RX8 9 "MixedWords$Words" "offs" "[I", Cond.methodLink RX8 62 yX3_wordCount, Cond.instanceMethod yX3_wordCount, Cond.selects RX3 yX3_wordCount yX3_wordCount, Cond.initialized RX3, Cond.code yX3_wordCount cX3_wordCount 1 (some .int), Cond.fieldLink RX3 15 "MixedWords$Mix" "width" "I", Cond.methodLink RX3 33 yX3_bitsOfLetter, Cond.instanceMethod yX3_bitsOfLetter, Cond.selects RX3 yX3_bitsOfLetter yX3_bitsOfLetter, Cond.code yX3_bitsOfLetter cX3_bitsOfLetter 1 (some .int), Cond.fieldLink RX3 18 "MixedWords$Mix" "letterCount" "I", Cond.methodLink RX8 80 yX8_offOf, Cond.instanceMethod yX8_offOf, Cond.selects RX8 yX8_offOf yX8_offOf]
noncomputable def wsX8_ranked_r2 : List Cond := [Cond.code yX8_offOf cX8_offOf 6 (some .int), Cond.fieldLink RX8 32 "MixedWords$Mix" "height" "I", Cond.fieldLink RX8 37 "MixedWords$Mix" "heard" "[I", Cond.fieldLink RX8 40 "MixedWords$Mix" "width" "I", Cond.fieldLink RX8 43 "MixedWords$Mix" "cells" "[[I", Cond.fieldLink RX8 51 "MixedWords$Mix" "letterCount" "I", Cond.methodLink RX8 47 yX8_indexOf, Cond.instanceMethod yX8_indexOf, Cond.selects RX8 yX8_indexOf yX8_indexOf, Cond.code yX8_indexOf cX8_indexOf 3 (some .int), Cond.methodLink RX8 54 yX3_bitsOfLetter, Cond.methodLink RX8 74 yX8_sortByOff, Cond.instanceMethod yX8_sortByOff, Cond.selects RX8 yX8_sortByOff yX8_sortByOff, Cond.code yX8_sortByOff cX8_sortByOff 4 none, Cond.fieldLink RX8 25 "MixedWords$Words" "byOffStamp" "I", Cond.methodLink RX8 69 Lib.Math.min.name, Cond.static Lib.Math.min.name, Cond.initialized "java/lang/Math", Cond.code Lib.Math.min.name Lib.Math.min.code 2 (some .int), Cond.fieldLink RX8 18 "MixedWords$Words" "spare" "[I", Cond.methodLink RX8 88 arraycopyName, Cond.native arraycopyName, Cond.static arraycopyName]
noncomputable def wsX8_ranked_r3 : List Cond := [Cond.initialized "java/lang/System", Cond.methodLink RX8 84 yX8_mergeRuns, Cond.instanceMethod yX8_mergeRuns, Cond.selects RX8 yX8_mergeRuns yX8_mergeRuns, Cond.code yX8_mergeRuns cX8_mergeRuns 7 none]
noncomputable def wsX8_ranked : List Cond := .code yX8_ranked cX8_ranked 2 (some .int) :: ((wsX8_ranked_r1 ++ (wsX8_ranked_r2 ++ wsX8_ranked_r3)) ++ wsX80 ++ wsX30)
noncomputable def wsX9_init_r1 : List Cond := [Cond.methodLink RX9 3 objectInit, Cond.instanceMethod objectInit, Cond.code objectInit ⟨#[0xb1]⟩ 1 none, Cond.classLink RX9 9 RX3, Cond.instantiable RX3 6, Cond.initialized RX3, Cond.fieldLink RX9 12 "MixedWords" "mix" "LMixedWords$Mix;", Cond.classLink RX9 16 RX0, Cond.instantiable RX0 8, Cond.initialized RX0, Cond.fieldLink RX9 21 "MixedWords" "acts" "LMixedWords$Acts;", Cond.classLink RX9 25 RX7, Cond.instantiable RX7 2, Cond.initialized RX7, Cond.fieldLink RX9 28 "MixedWords" "tape" "LMixedWords$Tape;", Cond.classLink RX9 32 RX4, Cond.instantiable RX4 6, Cond.initialized RX4, Cond.fieldLink RX9 37 "MixedWords" "reader" "LMixedWords$Reader;", Cond.classLink RX9 41 RX8, Cond.instantiable RX8 6, Cond.initialized RX8, Cond.fieldLink RX9 44 "MixedWords" "words" "LMixedWords$Words;", Cond.classLink RX9 48 RX2]
noncomputable def wsX9_init_r2 : List Cond := [Cond.instantiable RX2 5, Cond.initialized RX2, Cond.fieldLink RX9 51 "MixedWords" "least" "LMixedWords$Least;", Cond.classLink RX9 55 RX6, Cond.instantiable RX6 4, Cond.initialized RX6, Cond.fieldLink RX9 58 "MixedWords" "taker" "LMixedWords$Taker;", Cond.classLink RX9 62 RX1, Cond.instantiable RX1 6, Cond.initialized RX1, Cond.fieldLink RX9 65 "MixedWords" "leader" "LMixedWords$Leader;", Cond.classLink RX9 69 RX5, Cond.fieldLink RX9 71 "MixedWords" "sheets" "[LMixedWords$Sheet;", Cond.instantiable RX5 3, Cond.initialized RX5, Cond.instanceMethod yX3_init, Cond.code yX3_init cX3_init 1 none, Cond.methodLink RX3 3 objectInit, Cond.fieldLink RX3 9 "MixedWords$Mix" "height" "I", Cond.fieldLink RX3 15 "MixedWords$Mix" "width" "I", Cond.fieldLink RX3 18 "MixedWords$Mix" "letterCount" "I", Cond.fieldLink RX3 21 "MixedWords$Mix" "stamp" "I", Cond.classLink RX3 24 "[[I", Cond.arrayClass .int]
noncomputable def wsX9_init_r3 : List Cond := [Cond.fieldLink RX3 26 "MixedWords$Mix" "cells" "[[I", Cond.fieldLink RX3 29 "MixedWords$Mix" "heard" "[I", Cond.methodLink RX9 18 yX0_init, Cond.instanceMethod yX0_init, Cond.code yX0_init cX0_init 2 none, Cond.methodLink RX0 1 objectInit, Cond.fieldLink RX0 9 "MixedWords$Acts" "rowOf" "[I", Cond.fieldLink RX0 13 "MixedWords$Acts" "columnOf" "[I", Cond.fieldLink RX0 16 "MixedWords$Acts" "before" "[I", Cond.fieldLink RX0 19 "MixedWords$Acts" "after" "[I", Cond.fieldLink RX0 22 "MixedWords$Acts" "oldest" "I", Cond.fieldLink RX0 26 "MixedWords$Acts" "back" "I", Cond.fieldLink RX0 29 "MixedWords$Acts" "on" "I", Cond.fieldLink RX0 32 "MixedWords$Acts" "mix" "LMixedWords$Mix;", Cond.instanceMethod yX7_init, Cond.code yX7_init cX7_init 1 none, Cond.methodLink RX7 1 objectInit, Cond.arrayClass .byte, Cond.fieldLink RX7 9 "MixedWords$Tape" "bytes" "[B", Cond.fieldLink RX7 13 "MixedWords$Tape" "length" "I", Cond.methodLink RX9 34 yX4_init, Cond.instanceMethod yX4_init, Cond.code yX4_init cX4_init 2 none, Cond.methodLink RX4 3 objectInit]
noncomputable def wsX9_init_r4 : List Cond := [Cond.classLink RX4 9 "[[I", Cond.fieldLink RX4 11 "MixedWords$Reader" "cells" "[[I", Cond.fieldLink RX4 16 "MixedWords$Reader" "tape" "LMixedWords$Tape;", Cond.methodLink RX9 43 yX8_init, Cond.instanceMethod yX8_init, Cond.code yX8_init cX8_init 2 none, Cond.methodLink RX8 3 objectInit, Cond.fieldLink RX8 9 "MixedWords$Words" "offs" "[I", Cond.fieldLink RX8 15 "MixedWords$Words" "byOff" "[I", Cond.fieldLink RX8 18 "MixedWords$Words" "spare" "[I", Cond.fieldLink RX8 21 "MixedWords$Words" "offsStamp" "I", Cond.fieldLink RX8 25 "MixedWords$Words" "byOffStamp" "I", Cond.fieldLink RX8 28 "MixedWords$Words" "mix" "LMixedWords$Mix;", Cond.instanceMethod yX2_init, Cond.code yX2_init cX2_init 1 none, Cond.methodLink RX2 3 objectInit, Cond.classLink RX2 9 "[[J", Cond.arrayClass .long, Cond.fieldLink RX2 11 "MixedWords$Least" "square" "[[J", Cond.fieldLink RX2 16 "MixedWords$Least" "right" "[J", Cond.fieldLink RX2 20 "MixedWords$Least" "picked" "[I", Cond.fieldLink RX2 24 "MixedWords$Least" "above" "[J", Cond.methodLink RX9 57 yX6_init, Cond.instanceMethod yX6_init]
noncomputable def wsX9_init_r5 : List Cond := [Cond.code yX6_init cX6_init 2 none, Cond.methodLink RX6 3 objectInit, Cond.fieldLink RX6 9 "MixedWords$Taker" "left" "[I", Cond.fieldLink RX6 15 "MixedWords$Taker" "sequence" "[I", Cond.fieldLink RX6 18 "MixedWords$Taker" "indexes" "[I", Cond.fieldLink RX6 21 "MixedWords$Taker" "mix" "LMixedWords$Mix;", Cond.methodLink RX9 64 yX1_init, Cond.instanceMethod yX1_init, Cond.code yX1_init cX1_init 2 none, Cond.methodLink RX1 3 objectInit, Cond.classLink RX1 9 "[[I", Cond.fieldLink RX1 11 "MixedWords$Leader" "columns" "[[I", Cond.fieldLink RX1 16 "MixedWords$Leader" "steps" "[[I", Cond.fieldLink RX1 19 "MixedWords$Leader" "target" "[I", Cond.fieldLink RX1 23 "MixedWords$Leader" "stamp" "I", Cond.fieldLink RX1 27 "MixedWords$Leader" "mix" "LMixedWords$Mix;", Cond.instanceMethod yX5_init, Cond.code yX5_init cX5_init 1 none, Cond.methodLink RX5 3 objectInit, Cond.fieldLink RX5 11 "MixedWords$Sheet" "lane" "I", Cond.fieldLink RX5 15 "MixedWords$Sheet" "length" "I", Cond.fieldLink RX5 18 "MixedWords$Sheet" "items" "[J"]
noncomputable def wsX9_init : List Cond := .code yX9_init cX9_init 2 none :: ((wsX9_init_r1 ++ (wsX9_init_r2 ++ (wsX9_init_r3 ++ (wsX9_init_r4 ++ wsX9_init_r5)))) ++ wsX30 ++ wsX90 ++ wsX00 ++ wsX70 ++ wsX40 ++ wsX80 ++ wsX20 ++ wsX60 ++ wsX10 ++ wsX50)
noncomputable def wsX9_table : List Cond := .code yX9_table cX9_table 3 (some .int) :: ([.fieldLink RX9 12 "MixedWords" "mix" "LMixedWords$Mix;", .fieldLink RX9 21 "MixedWords" "acts" "LMixedWords$Acts;", .methodLink RX9 76 yX3_reshape, .instanceMethod yX3_reshape, .selects RX3 yX3_reshape yX3_reshape, .initialized RX3, .code yX3_reshape cX3_reshape 4 none, .fieldLink RX3 9 "MixedWords$Mix" "height" "I", .fieldLink RX3 15 "MixedWords$Mix" "width" "I", .fieldLink RX3 26 "MixedWords$Mix" "cells" "[[I", .fieldLink RX3 29 "MixedWords$Mix" "heard" "[I", .fieldLink RX3 21 "MixedWords$Mix" "stamp" "I", .methodLink RX3 37 yJ7_fill_53178, .static yJ7_fill_53178, .initialized RJ7, .code yJ7_fill_53178 cJ7_fill_53178 4 none, .methodLink RX9 80 yX0_forget, .instanceMethod yX0_forget, .selects RX0 yX0_forget yX0_forget, .initialized RX0, .code yX0_forget cX0_forget 1 none, .fieldLink RX0 22 "MixedWords$Acts" "oldest" "I", .fieldLink RX0 26 "MixedWords$Acts" "back" "I", .fieldLink RX0 29 "MixedWords$Acts" "on" "I"] ++ wsX90 ++ wsX30 ++ wsX00)
noncomputable def wsX9_letters : List Cond := .code yX9_letters cX9_letters 3 (some .int) :: ([.fieldLink RX9 12 "MixedWords" "mix" "LMixedWords$Mix;", .fieldLink RX9 83 "MixedWords$Mix" "letterCount" "I", .fieldLink RX9 21 "MixedWords" "acts" "LMixedWords$Acts;", .methodLink RX9 87 yX3_choose, .instanceMethod yX3_choose, .selects RX3 yX3_choose yX3_choose, .initialized RX3, .code yX3_choose cX3_choose 2 none, .fieldLink RX3 18 "MixedWords$Mix" "letterCount" "I", .fieldLink RX3 21 "MixedWords$Mix" "stamp" "I", .methodLink RX9 80 yX0_forget, .instanceMethod yX0_forget, .selects RX0 yX0_forget yX0_forget, .initialized RX0, .code yX0_forget cX0_forget 1 none, .fieldLink RX0 22 "MixedWords$Acts" "oldest" "I", .fieldLink RX0 26 "MixedWords$Acts" "back" "I", .fieldLink RX0 29 "MixedWords$Acts" "on" "I"] ++ wsX90 ++ wsX30 ++ wsX00)
noncomputable def wsX9_set_r1 : List Cond := [Cond.fieldLink RX9 12 "MixedWords" "mix" "LMixedWords$Mix;", Cond.fieldLink RX9 21 "MixedWords" "acts" "LMixedWords$Acts;", Cond.methodLink RX9 91 yX3_hasRow, Cond.instanceMethod yX3_hasRow, Cond.selects RX3 yX3_hasRow yX3_hasRow, Cond.initialized RX3, Cond.code yX3_hasRow cX3_hasRow 2 (some .boolean), Cond.fieldLink RX3 9 "MixedWords$Mix" "height" "I", Cond.methodLink RX9 95 yX3_hasColumn, Cond.instanceMethod yX3_hasColumn, Cond.selects RX3 yX3_hasColumn yX3_hasColumn, Cond.code yX3_hasColumn cX3_hasColumn 2 (some .boolean), Cond.fieldLink RX3 15 "MixedWords$Mix" "width" "I", Cond.methodLink RX9 98 yX9_within, Cond.static yX9_within, Cond.initialized RX9, Cond.code yX9_within cX9_within 3 (some .boolean), Cond.methodLink RX9 102 yX0_take, Cond.instanceMethod yX0_take, Cond.selects RX0 yX0_take yX0_take, Cond.initialized RX0, Cond.code yX0_take cX0_take 6 (some .int), Cond.fieldLink RX0 32 "MixedWords$Acts" "mix" "LMixedWords$Mix;", Cond.fieldLink RX0 26 "MixedWords$Acts" "back" "I"]
noncomputable def wsX9_set_r2 : List Cond := [Cond.fieldLink RX0 22 "MixedWords$Acts" "oldest" "I", Cond.fieldLink RX0 9 "MixedWords$Acts" "rowOf" "[I", Cond.fieldLink RX0 13 "MixedWords$Acts" "columnOf" "[I", Cond.fieldLink RX0 16 "MixedWords$Acts" "before" "[I", Cond.fieldLink RX0 19 "MixedWords$Acts" "after" "[I", Cond.fieldLink RX0 29 "MixedWords$Acts" "on" "I", Cond.methodLink RX0 36 yX3_at, Cond.instanceMethod yX3_at, Cond.selects RX3 yX3_at yX3_at, Cond.code yX3_at cX3_at 3 (some .int), Cond.fieldLink RX3 29 "MixedWords$Mix" "heard" "[I", Cond.fieldLink RX3 26 "MixedWords$Mix" "cells" "[[I", Cond.methodLink RX0 42 yX3_put, Cond.instanceMethod yX3_put, Cond.selects RX3 yX3_put yX3_put, Cond.code yX3_put cX3_put 4 none, Cond.fieldLink RX3 21 "MixedWords$Mix" "stamp" "I"]
noncomputable def wsX9_set : List Cond := .code yX9_set cX9_set 4 (some .int) :: ((wsX9_set_r1 ++ wsX9_set_r2) ++ wsX90 ++ wsX30 ++ wsX00)
noncomputable def wsX9_hear_r1 : List Cond := [Cond.fieldLink RX9 12 "MixedWords" "mix" "LMixedWords$Mix;", Cond.fieldLink RX9 21 "MixedWords" "acts" "LMixedWords$Acts;", Cond.fieldLink RX9 106 "MixedWords$Mix" "width" "I", Cond.methodLink RX9 91 yX3_hasRow, Cond.instanceMethod yX3_hasRow, Cond.selects RX3 yX3_hasRow yX3_hasRow, Cond.initialized RX3, Cond.code yX3_hasRow cX3_hasRow 2 (some .boolean), Cond.fieldLink RX3 9 "MixedWords$Mix" "height" "I", Cond.methodLink RX9 98 yX9_within, Cond.static yX9_within, Cond.initialized RX9, Cond.code yX9_within cX9_within 3 (some .boolean), Cond.methodLink RX9 102 yX0_take, Cond.instanceMethod yX0_take, Cond.selects RX0 yX0_take yX0_take, Cond.initialized RX0, Cond.code yX0_take cX0_take 6 (some .int), Cond.fieldLink RX0 32 "MixedWords$Acts" "mix" "LMixedWords$Mix;", Cond.fieldLink RX0 26 "MixedWords$Acts" "back" "I", Cond.fieldLink RX0 22 "MixedWords$Acts" "oldest" "I", Cond.fieldLink RX0 9 "MixedWords$Acts" "rowOf" "[I", Cond.fieldLink RX0 13 "MixedWords$Acts" "columnOf" "[I", Cond.fieldLink RX0 16 "MixedWords$Acts" "before" "[I"]
noncomputable def wsX9_hear_r2 : List Cond := [Cond.fieldLink RX0 19 "MixedWords$Acts" "after" "[I", Cond.fieldLink RX0 29 "MixedWords$Acts" "on" "I", Cond.methodLink RX0 36 yX3_at, Cond.instanceMethod yX3_at, Cond.selects RX3 yX3_at yX3_at, Cond.code yX3_at cX3_at 3 (some .int), Cond.fieldLink RX3 15 "MixedWords$Mix" "width" "I", Cond.fieldLink RX3 29 "MixedWords$Mix" "heard" "[I", Cond.fieldLink RX3 26 "MixedWords$Mix" "cells" "[[I", Cond.methodLink RX0 42 yX3_put, Cond.instanceMethod yX3_put, Cond.selects RX3 yX3_put yX3_put, Cond.code yX3_put cX3_put 4 none, Cond.fieldLink RX3 21 "MixedWords$Mix" "stamp" "I"]
noncomputable def wsX9_hear : List Cond := .code yX9_hear cX9_hear 3 (some .int) :: ((wsX9_hear_r1 ++ wsX9_hear_r2) ++ wsX90 ++ wsX30 ++ wsX00)
noncomputable def wsX9_undo_r1 : List Cond := [Cond.fieldLink RX9 21 "MixedWords" "acts" "LMixedWords$Acts;", Cond.methodLink RX9 109 yX0_canGoBack, Cond.instanceMethod yX0_canGoBack, Cond.selects RX0 yX0_canGoBack yX0_canGoBack, Cond.initialized RX0, Cond.code yX0_canGoBack cX0_canGoBack 1 (some .boolean), Cond.fieldLink RX0 26 "MixedWords$Acts" "back" "I", Cond.methodLink RX9 113 yX0_goBack, Cond.instanceMethod yX0_goBack, Cond.selects RX0 yX0_goBack yX0_goBack, Cond.code yX0_goBack cX0_goBack 2 (some .int), Cond.fieldLink RX0 29 "MixedWords$Acts" "on" "I", Cond.fieldLink RX0 22 "MixedWords$Acts" "oldest" "I", Cond.fieldLink RX0 32 "MixedWords$Acts" "mix" "LMixedWords$Mix;", Cond.fieldLink RX0 9 "MixedWords$Acts" "rowOf" "[I", Cond.fieldLink RX0 13 "MixedWords$Acts" "columnOf" "[I", Cond.fieldLink RX0 16 "MixedWords$Acts" "before" "[I", Cond.methodLink RX0 42 yX3_put, Cond.instanceMethod yX3_put, Cond.selects RX3 yX3_put yX3_put, Cond.initialized RX3, Cond.code yX3_put cX3_put 4 none, Cond.fieldLink RX3 15 "MixedWords$Mix" "width" "I", Cond.fieldLink RX3 29 "MixedWords$Mix" "heard" "[I"]
noncomputable def wsX9_undo_r2 : List Cond := [Cond.fieldLink RX3 26 "MixedWords$Mix" "cells" "[[I", Cond.fieldLink RX3 21 "MixedWords$Mix" "stamp" "I"]
noncomputable def wsX9_undo : List Cond := .code yX9_undo cX9_undo 1 (some .int) :: ((wsX9_undo_r1 ++ wsX9_undo_r2) ++ wsX90 ++ wsX00 ++ wsX30)
noncomputable def wsX9_redo_r1 : List Cond := [Cond.fieldLink RX9 21 "MixedWords" "acts" "LMixedWords$Acts;", Cond.methodLink RX9 117 yX0_canGoOn, Cond.instanceMethod yX0_canGoOn, Cond.selects RX0 yX0_canGoOn yX0_canGoOn, Cond.initialized RX0, Cond.code yX0_canGoOn cX0_canGoOn 1 (some .boolean), Cond.fieldLink RX0 29 "MixedWords$Acts" "on" "I", Cond.methodLink RX9 120 yX0_goOn, Cond.instanceMethod yX0_goOn, Cond.selects RX0 yX0_goOn yX0_goOn, Cond.code yX0_goOn cX0_goOn 2 (some .int), Cond.fieldLink RX0 22 "MixedWords$Acts" "oldest" "I", Cond.fieldLink RX0 26 "MixedWords$Acts" "back" "I", Cond.fieldLink RX0 32 "MixedWords$Acts" "mix" "LMixedWords$Mix;", Cond.fieldLink RX0 9 "MixedWords$Acts" "rowOf" "[I", Cond.fieldLink RX0 13 "MixedWords$Acts" "columnOf" "[I", Cond.fieldLink RX0 19 "MixedWords$Acts" "after" "[I", Cond.methodLink RX0 42 yX3_put, Cond.instanceMethod yX3_put, Cond.selects RX3 yX3_put yX3_put, Cond.initialized RX3, Cond.code yX3_put cX3_put 4 none, Cond.fieldLink RX3 15 "MixedWords$Mix" "width" "I", Cond.fieldLink RX3 29 "MixedWords$Mix" "heard" "[I"]
noncomputable def wsX9_redo_r2 : List Cond := [Cond.fieldLink RX3 26 "MixedWords$Mix" "cells" "[[I", Cond.fieldLink RX3 21 "MixedWords$Mix" "stamp" "I"]
noncomputable def wsX9_redo : List Cond := .code yX9_redo cX9_redo 1 (some .int) :: ((wsX9_redo_r1 ++ wsX9_redo_r2) ++ wsX90 ++ wsX00 ++ wsX30)
noncomputable def wsX9_told : List Cond := .code yX9_told cX9_told 3 (some .int) :: ([.fieldLink RX9 12 "MixedWords" "mix" "LMixedWords$Mix;", .fieldLink RX9 106 "MixedWords$Mix" "width" "I", .methodLink RX9 91 yX3_hasRow, .instanceMethod yX3_hasRow, .selects RX3 yX3_hasRow yX3_hasRow, .initialized RX3, .code yX3_hasRow cX3_hasRow 2 (some .boolean), .fieldLink RX3 9 "MixedWords$Mix" "height" "I", .methodLink RX9 95 yX3_hasColumn, .instanceMethod yX3_hasColumn, .selects RX3 yX3_hasColumn yX3_hasColumn, .code yX3_hasColumn cX3_hasColumn 2 (some .boolean), .fieldLink RX3 15 "MixedWords$Mix" "width" "I", .methodLink RX9 123 yX3_at, .instanceMethod yX3_at, .selects RX3 yX3_at yX3_at, .code yX3_at cX3_at 3 (some .int), .fieldLink RX3 29 "MixedWords$Mix" "heard" "[I", .fieldLink RX3 26 "MixedWords$Mix" "cells" "[[I"] ++ wsX90 ++ wsX30)
noncomputable def wsX9_type : List Cond := .code yX9_type cX9_type 4 (some .int) :: ([.fieldLink RX9 28 "MixedWords" "tape" "LMixedWords$Tape;", .methodLink RX9 127 yX7_takes, .static yX7_takes, .initialized RX7, .code yX7_takes cX7_takes 5 (some .boolean), .methodLink RX7 17 yX7_byteOf, .static yX7_byteOf, .code yX7_byteOf cX7_byteOf 3 (some .int), .constantLong RX7 21 (255), .methodLink RX9 130 yX7_hasRoom, .instanceMethod yX7_hasRoom, .selects RX7 yX7_hasRoom yX7_hasRoom, .code yX7_hasRoom cX7_hasRoom 2 (some .boolean), .fieldLink RX7 13 "MixedWords$Tape" "length" "I", .methodLink RX9 133 yX7_append, .instanceMethod yX7_append, .selects RX7 yX7_append yX7_append, .code yX7_append cX7_append 5 (some .int), .fieldLink RX7 9 "MixedWords$Tape" "bytes" "[B"] ++ wsX90 ++ wsX70)
noncomputable def wsX9_read_r1 : List Cond := [Cond.fieldLink RX9 37 "MixedWords" "reader" "LMixedWords$Reader;", Cond.fieldLink RX9 28 "MixedWords" "tape" "LMixedWords$Tape;", Cond.fieldLink RX9 12 "MixedWords" "mix" "LMixedWords$Mix;", Cond.fieldLink RX9 143 "MixedWords$Reader" "height" "I", Cond.fieldLink RX9 146 "MixedWords$Reader" "width" "I", Cond.fieldLink RX9 147 "MixedWords$Mix" "height" "I", Cond.fieldLink RX9 106 "MixedWords$Mix" "width" "I", Cond.fieldLink RX9 148 "MixedWords$Reader" "cells" "[[I", Cond.fieldLink RX9 21 "MixedWords" "acts" "LMixedWords$Acts;", Cond.methodLink RX9 137 yX4_parse, Cond.instanceMethod yX4_parse, Cond.selects RX4 yX4_parse yX4_parse, Cond.initialized RX4, Cond.code yX4_parse cX4_parse 2 (some .int), Cond.fieldLink RX4 20 "MixedWords$Reader" "height" "I", Cond.fieldLink RX4 24 "MixedWords$Reader" "width" "I", Cond.fieldLink RX4 27 "MixedWords$Reader" "inRow" "I", Cond.fieldLink RX4 30 "MixedWords$Reader" "place" "I", Cond.fieldLink RX4 16 "MixedWords$Reader" "tape" "LMixedWords$Tape;", Cond.methodLink RX4 33 yX4_takeNumber, Cond.instanceMethod yX4_takeNumber, Cond.selects RX4 yX4_takeNumber yX4_takeNumber, Cond.code yX4_takeNumber cX4_takeNumber 4 (some .boolean), Cond.fieldLink RX4 55 "MixedWords$Tape" "length" "I"]
noncomputable def wsX9_read_r2 : List Cond := [Cond.methodLink RX4 61 Lib.Math.min.name, Cond.static Lib.Math.min.name, Cond.initialized "java/lang/Math", Cond.code Lib.Math.min.name Lib.Math.min.code 2 (some .int), Cond.fieldLink RX4 11 "MixedWords$Reader" "cells" "[[I", Cond.methodLink RX4 37 yX4_skipBlanks, Cond.instanceMethod yX4_skipBlanks, Cond.selects RX4 yX4_skipBlanks yX4_skipBlanks, Cond.code yX4_skipBlanks cX4_skipBlanks 1 none, Cond.methodLink RX4 40 yX7_at, Cond.instanceMethod yX7_at, Cond.selects RX7 yX7_at yX7_at, Cond.initialized RX7, Cond.code yX7_at cX7_at 2 (some .int), Cond.fieldLink RX7 13 "MixedWords$Tape" "length" "I", Cond.fieldLink RX7 9 "MixedWords$Tape" "bytes" "[B", Cond.methodLink RX4 58 yX4_isDigit, Cond.instanceMethod yX4_isDigit, Cond.selects RX4 yX4_isDigit yX4_isDigit, Cond.code yX4_isDigit cX4_isDigit 1 (some .boolean), Cond.methodLink RX4 46 yX4_isRowWhole, Cond.instanceMethod yX4_isRowWhole, Cond.selects RX4 yX4_isRowWhole yX4_isRowWhole, Cond.code yX4_isRowWhole cX4_isRowWhole 1 (some .boolean)]
noncomputable def wsX9_read_r3 : List Cond := [Cond.methodLink RX4 49 yX4_endRow, Cond.instanceMethod yX4_endRow, Cond.selects RX4 yX4_endRow yX4_endRow, Cond.code yX4_endRow cX4_endRow 1 none, Cond.methodLink RX4 52 yX4_takeSign, Cond.instanceMethod yX4_takeSign, Cond.selects RX4 yX4_takeSign yX4_takeSign, Cond.code yX4_takeSign cX4_takeSign 2 (some .boolean), Cond.methodLink RX9 140 yX7_clear, Cond.instanceMethod yX7_clear, Cond.selects RX7 yX7_clear yX7_clear, Cond.code yX7_clear cX7_clear 1 none, Cond.methodLink RX9 76 yX3_reshape, Cond.instanceMethod yX3_reshape, Cond.selects RX3 yX3_reshape yX3_reshape, Cond.initialized RX3, Cond.code yX3_reshape cX3_reshape 4 none, Cond.fieldLink RX3 9 "MixedWords$Mix" "height" "I", Cond.fieldLink RX3 15 "MixedWords$Mix" "width" "I", Cond.fieldLink RX3 26 "MixedWords$Mix" "cells" "[[I", Cond.fieldLink RX3 29 "MixedWords$Mix" "heard" "[I", Cond.fieldLink RX3 21 "MixedWords$Mix" "stamp" "I", Cond.methodLink RX3 37 yJ7_fill_53178, Cond.static yJ7_fill_53178]
noncomputable def wsX9_read_r4 : List Cond := [Cond.initialized RJ7, Cond.code yJ7_fill_53178 cJ7_fill_53178 4 none, Cond.methodLink RX9 152 yX3_put, Cond.instanceMethod yX3_put, Cond.selects RX3 yX3_put yX3_put, Cond.code yX3_put cX3_put 4 none, Cond.methodLink RX9 80 yX0_forget, Cond.instanceMethod yX0_forget, Cond.selects RX0 yX0_forget yX0_forget, Cond.initialized RX0, Cond.code yX0_forget cX0_forget 1 none, Cond.fieldLink RX0 22 "MixedWords$Acts" "oldest" "I", Cond.fieldLink RX0 26 "MixedWords$Acts" "back" "I", Cond.fieldLink RX0 29 "MixedWords$Acts" "on" "I"]
noncomputable def wsX9_read : List Cond := .code yX9_read cX9_read 4 (some .int) :: ((wsX9_read_r1 ++ (wsX9_read_r2 ++ (wsX9_read_r3 ++ wsX9_read_r4))) ++ wsX90 ++ wsX40 ++ wsX30 ++ wsX70 ++ wsX00)
noncomputable def wsX9_off_r1 : List Cond := [Cond.fieldLink RX9 12 "MixedWords" "mix" "LMixedWords$Mix;", Cond.fieldLink RX9 44 "MixedWords" "words" "LMixedWords$Words;", Cond.methodLink RX9 156 yX3_wordCount, Cond.instanceMethod yX3_wordCount, Cond.selects RX3 yX3_wordCount yX3_wordCount, Cond.initialized RX3, Cond.code yX3_wordCount cX3_wordCount 1 (some .int), Cond.fieldLink RX3 15 "MixedWords$Mix" "width" "I", Cond.methodLink RX3 33 yX3_bitsOfLetter, Cond.instanceMethod yX3_bitsOfLetter, Cond.selects RX3 yX3_bitsOfLetter yX3_bitsOfLetter, Cond.code yX3_bitsOfLetter cX3_bitsOfLetter 1 (some .int), Cond.fieldLink RX3 18 "MixedWords$Mix" "letterCount" "I", Cond.methodLink RX9 159 yX8_offOf, Cond.instanceMethod yX8_offOf, Cond.selects RX8 yX8_offOf yX8_offOf, Cond.initialized RX8, Cond.code yX8_offOf cX8_offOf 6 (some .int), Cond.fieldLink RX8 28 "MixedWords$Words" "mix" "LMixedWords$Mix;", Cond.fieldLink RX8 32 "MixedWords$Mix" "height" "I", Cond.fieldLink RX8 37 "MixedWords$Mix" "heard" "[I", Cond.fieldLink RX8 40 "MixedWords$Mix" "width" "I", Cond.fieldLink RX8 43 "MixedWords$Mix" "cells" "[[I", Cond.fieldLink RX8 51 "MixedWords$Mix" "letterCount" "I"]
noncomputable def wsX9_off_r2 : List Cond := [Cond.methodLink RX8 47 yX8_indexOf, Cond.instanceMethod yX8_indexOf, Cond.selects RX8 yX8_indexOf yX8_indexOf, Cond.code yX8_indexOf cX8_indexOf 3 (some .int), Cond.methodLink RX8 54 yX3_bitsOfLetter]
noncomputable def wsX9_off : List Cond := .code yX9_off cX9_off 2 (some .int) :: ((wsX9_off_r1 ++ wsX9_off_r2) ++ wsX90 ++ wsX30 ++ wsX80)
noncomputable def wsX9_nearest_r1 : List Cond := [Cond.fieldLink RX9 12 "MixedWords" "mix" "LMixedWords$Mix;", Cond.fieldLink RX9 44 "MixedWords" "words" "LMixedWords$Words;", Cond.methodLink RX9 156 yX3_wordCount, Cond.instanceMethod yX3_wordCount, Cond.selects RX3 yX3_wordCount yX3_wordCount, Cond.initialized RX3, Cond.code yX3_wordCount cX3_wordCount 1 (some .int), Cond.fieldLink RX3 15 "MixedWords$Mix" "width" "I", Cond.methodLink RX3 33 yX3_bitsOfLetter, Cond.instanceMethod yX3_bitsOfLetter, Cond.selects RX3 yX3_bitsOfLetter yX3_bitsOfLetter, Cond.code yX3_bitsOfLetter cX3_bitsOfLetter 1 (some .int), Cond.fieldLink RX3 18 "MixedWords$Mix" "letterCount" "I", Cond.methodLink RX9 163 yX8_ranked, Cond.instanceMethod yX8_ranked, Cond.selects RX8 yX8_ranked yX8_ranked, Cond.initialized RX8, Cond.code yX8_ranked cX8_ranked 2 (some .int), Cond.fieldLink RX8 15 "MixedWords$Words" "byOff" "[I", Cond.methodLink RX8 58 yX8_workOutOffs, Cond.instanceMethod yX8_workOutOffs, Cond.selects RX8 yX8_workOutOffs yX8_workOutOffs, Cond.code yX8_workOutOffs cX8_workOutOffs 2 none, Cond.fieldLink RX8 21 "MixedWords$Words" "offsStamp" "I"]
noncomputable def wsX9_nearest_r2 : List Cond := [Cond.fieldLink RX8 28 "MixedWords$Words" "mix" "LMixedWords$Mix;", Cond.fieldLink RX8 77 "MixedWords$Mix" "stamp" "I", Cond.fieldLink RX8 9 "MixedWords$Words" "offs" "[I", Cond.methodLink RX8 62 yX3_wordCount, Cond.methodLink RX8 80 yX8_offOf, Cond.instanceMethod yX8_offOf, Cond.selects RX8 yX8_offOf yX8_offOf, Cond.code yX8_offOf cX8_offOf 6 (some .int), Cond.fieldLink RX8 32 "MixedWords$Mix" "height" "I", Cond.fieldLink RX8 37 "MixedWords$Mix" "heard" "[I", Cond.fieldLink RX8 40 "MixedWords$Mix" "width" "I", Cond.fieldLink RX8 43 "MixedWords$Mix" "cells" "[[I", Cond.fieldLink RX8 51 "MixedWords$Mix" "letterCount" "I", Cond.methodLink RX8 47 yX8_indexOf, Cond.instanceMethod yX8_indexOf, Cond.selects RX8 yX8_indexOf yX8_indexOf, Cond.code yX8_indexOf cX8_indexOf 3 (some .int), Cond.methodLink RX8 54 yX3_bitsOfLetter, Cond.methodLink RX8 74 yX8_sortByOff, Cond.instanceMethod yX8_sortByOff, Cond.selects RX8 yX8_sortByOff yX8_sortByOff, Cond.code yX8_sortByOff cX8_sortByOff 4 none, Cond.fieldLink RX8 25 "MixedWords$Words" "byOffStamp" "I", Cond.methodLink RX8 69 Lib.Math.min.name]
noncomputable def wsX9_nearest_r3 : List Cond := [Cond.static Lib.Math.min.name, Cond.initialized "java/lang/Math", Cond.code Lib.Math.min.name Lib.Math.min.code 2 (some .int), Cond.fieldLink RX8 18 "MixedWords$Words" "spare" "[I", Cond.methodLink RX8 88 arraycopyName, Cond.native arraycopyName, Cond.static arraycopyName, Cond.initialized "java/lang/System", Cond.methodLink RX8 84 yX8_mergeRuns, Cond.instanceMethod yX8_mergeRuns, Cond.selects RX8 yX8_mergeRuns yX8_mergeRuns, Cond.code yX8_mergeRuns cX8_mergeRuns 7 none]
noncomputable def wsX9_nearest : List Cond := .code yX9_nearest cX9_nearest 2 (some .int) :: ((wsX9_nearest_r1 ++ (wsX9_nearest_r2 ++ wsX9_nearest_r3)) ++ wsX90 ++ wsX30 ++ wsX80)
noncomputable def wsX9_soft_r1 : List Cond := [Cond.fieldLink RX9 12 "MixedWords" "mix" "LMixedWords$Mix;", Cond.constant RX9 169 (-100000001), Cond.fieldLink RX9 44 "MixedWords" "words" "LMixedWords$Words;", Cond.methodLink RX9 95 yX3_hasColumn, Cond.instanceMethod yX3_hasColumn, Cond.selects RX3 yX3_hasColumn yX3_hasColumn, Cond.initialized RX3, Cond.code yX3_hasColumn cX3_hasColumn 2 (some .boolean), Cond.fieldLink RX3 15 "MixedWords$Mix" "width" "I", Cond.methodLink RX9 166 yX3_bitsOfLetter, Cond.instanceMethod yX3_bitsOfLetter, Cond.selects RX3 yX3_bitsOfLetter yX3_bitsOfLetter, Cond.code yX3_bitsOfLetter cX3_bitsOfLetter 1 (some .int), Cond.fieldLink RX3 18 "MixedWords$Mix" "letterCount" "I", Cond.methodLink RX9 170 yX8_leastWith, Cond.instanceMethod yX8_leastWith, Cond.selects RX8 yX8_leastWith yX8_leastWith, Cond.initialized RX8, Cond.code yX8_leastWith cX8_leastWith 6 (some .int), Cond.constant RX8 61 (10000000), Cond.fieldLink RX8 28 "MixedWords$Words" "mix" "LMixedWords$Mix;", Cond.fieldLink RX8 9 "MixedWords$Words" "offs" "[I", Cond.methodLink RX8 69 Lib.Math.min.name, Cond.static Lib.Math.min.name]
noncomputable def wsX9_soft_r2 : List Cond := [Cond.initialized "java/lang/Math", Cond.code Lib.Math.min.name Lib.Math.min.code 2 (some .int), Cond.methodLink RX8 58 yX8_workOutOffs, Cond.instanceMethod yX8_workOutOffs, Cond.selects RX8 yX8_workOutOffs yX8_workOutOffs, Cond.code yX8_workOutOffs cX8_workOutOffs 2 none, Cond.fieldLink RX8 21 "MixedWords$Words" "offsStamp" "I", Cond.fieldLink RX8 77 "MixedWords$Mix" "stamp" "I", Cond.methodLink RX8 62 yX3_wordCount, Cond.instanceMethod yX3_wordCount, Cond.selects RX3 yX3_wordCount yX3_wordCount, Cond.code yX3_wordCount cX3_wordCount 1 (some .int), Cond.methodLink RX3 33 yX3_bitsOfLetter, Cond.methodLink RX8 80 yX8_offOf, Cond.instanceMethod yX8_offOf, Cond.selects RX8 yX8_offOf yX8_offOf, Cond.code yX8_offOf cX8_offOf 6 (some .int), Cond.fieldLink RX8 32 "MixedWords$Mix" "height" "I", Cond.fieldLink RX8 37 "MixedWords$Mix" "heard" "[I", Cond.fieldLink RX8 40 "MixedWords$Mix" "width" "I", Cond.fieldLink RX8 43 "MixedWords$Mix" "cells" "[[I", Cond.fieldLink RX8 51 "MixedWords$Mix" "letterCount" "I", Cond.methodLink RX8 47 yX8_indexOf, Cond.instanceMethod yX8_indexOf]
noncomputable def wsX9_soft_r3 : List Cond := [Cond.selects RX8 yX8_indexOf yX8_indexOf, Cond.code yX8_indexOf cX8_indexOf 3 (some .int), Cond.methodLink RX8 54 yX3_bitsOfLetter, Cond.methodLink RX8 65 yX8_bitOf, Cond.instanceMethod yX8_bitOf, Cond.selects RX8 yX8_bitOf yX8_bitOf, Cond.code yX8_bitOf cX8_bitOf 5 (some .int)]
noncomputable def wsX9_soft : List Cond := .code yX9_soft cX9_soft 3 (some .int) :: ((wsX9_soft_r1 ++ (wsX9_soft_r2 ++ wsX9_soft_r3)) ++ wsX90 ++ wsX30 ++ wsX80)
noncomputable def wsX9_gram : List Cond := .code yX9_gram cX9_gram 3 (some .int) :: ([.fieldLink RX9 12 "MixedWords" "mix" "LMixedWords$Mix;", .fieldLink RX9 173 "MixedWords$Mix" "cells" "[[I", .fieldLink RX9 147 "MixedWords$Mix" "height" "I", .methodLink RX9 95 yX3_hasColumn, .instanceMethod yX3_hasColumn, .selects RX3 yX3_hasColumn yX3_hasColumn, .initialized RX3, .code yX3_hasColumn cX3_hasColumn 2 (some .boolean), .fieldLink RX3 15 "MixedWords$Mix" "width" "I", .methodLink RX9 174 yX9_product, .static yX9_product, .initialized RX9, .code yX9_product cX9_product 6 (some .int)] ++ wsX90 ++ wsX30)
noncomputable def wsX9_worth : List Cond := .code yX9_worth cX9_worth 2 (some .long) :: ([.fieldLink RX9 12 "MixedWords" "mix" "LMixedWords$Mix;", .fieldLink RX9 106 "MixedWords$Mix" "width" "I", .constantLong RX9 178 (-1), .fieldLink RX9 51 "MixedWords" "least" "LMixedWords$Least;", .methodLink RX9 180 yX2_worthOf, .instanceMethod yX2_worthOf, .selects RX2 yX2_worthOf yX2_worthOf, .initialized RX2, .code yX2_worthOf cX2_worthOf 6 (some .long), .fieldLink RX2 27 "MixedWords$Mix" "width" "I", .fieldLink RX2 20 "MixedWords$Least" "picked" "[I", .fieldLink RX2 11 "MixedWords$Least" "square" "[[J", .fieldLink RX2 33 "MixedWords$Mix" "cells" "[[I", .fieldLink RX2 37 "MixedWords$Mix" "height" "I", .static yX9_product, .initialized RX9, .code yX9_product cX9_product 6 (some .int), .methodLink RX2 44 yX2_determinant, .static yX2_determinant, .code yX2_determinant cX2_determinant 9 (some .long)] ++ wsX90 ++ wsX30 ++ wsX20)
noncomputable def wsX9_undone_r1 : List Cond := [Cond.fieldLink RX9 51 "MixedWords" "least" "LMixedWords$Least;", Cond.fieldLink RX9 12 "MixedWords" "mix" "LMixedWords$Mix;", Cond.fieldLink RX9 173 "MixedWords$Mix" "cells" "[[I", Cond.fieldLink RX9 184 "MixedWords$Mix" "heard" "[I", Cond.fieldLink RX9 147 "MixedWords$Mix" "height" "I", Cond.fieldLink RX9 106 "MixedWords$Mix" "width" "I", Cond.fieldLink RX9 192 "MixedWords$Least" "below" "J", Cond.fieldLink RX9 196 "MixedWords$Least" "above" "[J", Cond.fieldLink RX9 83 "MixedWords$Mix" "letterCount" "I", Cond.methodLink RX9 188 yX2_solve, Cond.instanceMethod yX2_solve, Cond.selects RX2 yX2_solve yX2_solve, Cond.initialized RX2, Cond.code yX2_solve cX2_solve 7 none, Cond.fieldLink RX2 16 "MixedWords$Least" "right" "[J", Cond.fieldLink RX2 11 "MixedWords$Least" "square" "[[J", Cond.fieldLink RX2 48 "MixedWords$Least" "below" "J", Cond.fieldLink RX2 24 "MixedWords$Least" "above" "[J", Cond.static yX9_product, Cond.initialized RX9, Cond.code yX9_product cX9_product 6 (some .int), Cond.methodLink RX2 44 yX2_determinant, Cond.static yX2_determinant, Cond.code yX2_determinant cX2_determinant 9 (some .long)]
noncomputable def wsX9_undone_r2 : List Cond := [Cond.methodLink RX2 52 yX2_swapRight, Cond.instanceMethod yX2_swapRight, Cond.selects RX2 yX2_swapRight yX2_swapRight, Cond.code yX2_swapRight cX2_swapRight 6 none, Cond.methodLink RX9 200 yX9_nearestLetter, Cond.static yX9_nearestLetter, Cond.code yX9_nearestLetter cX9_nearestLetter 5 (some .int), Cond.constantLong RX9 303 (2), Cond.methodLink RX9 305 yX9_roundedUp, Cond.static yX9_roundedUp, Cond.code yX9_roundedUp cX9_roundedUp 4 (some .long), Cond.methodLink RX9 308 yJ9_floorDiv_f86c9, Cond.static yJ9_floorDiv_f86c9, Cond.initialized RJ9, Cond.code yJ9_floorDiv_f86c9 cJ9_floorDiv_f86c9 6 (some .long), Cond.methodLink RX9 255 yX9_held, Cond.static yX9_held, Cond.code yX9_held cX9_held 3 (some .int), Cond.methodLink RX9 311 Lib.MathLoose.min_long.x, Cond.static Lib.MathLoose.min_long.x, Cond.initialized "java/lang/Math", Cond.code Lib.MathLoose.min_long.x Lib.MathLoose.min_long.code 4 (some .long), Cond.methodLink RX9 221 Lib.MathLoose.max_long.x, Cond.static Lib.MathLoose.max_long.x]
noncomputable def wsX9_undone_r3 : List Cond := [Cond.code Lib.MathLoose.max_long.x Lib.MathLoose.max_long.code 4 (some .long), Cond.methodLink RX9 204 yX3_follow, Cond.instanceMethod yX3_follow, Cond.selects RX3 yX3_follow yX3_follow, Cond.initialized RX3, Cond.code yX3_follow cX3_follow 3 (some .int), Cond.fieldLink RX3 18 "MixedWords$Mix" "letterCount" "I"]
noncomputable def wsX9_undone : List Cond := .code yX9_undone cX9_undone 3 (some .int) :: ((wsX9_undone_r1 ++ (wsX9_undone_r2 ++ wsX9_undone_r3)) ++ wsX90 ++ wsX30 ++ wsX20)
noncomputable def wsX9_commonDivisor : List Cond := .code yX9_commonDivisor cX9_commonDivisor 11 (some .long) :: ([])
noncomputable def wsX9_fraction_r1 : List Cond := [Cond.fieldLink RX9 12 "MixedWords" "mix" "LMixedWords$Mix;", Cond.constantLong RX9 207 (-1000000000000001), Cond.fieldLink RX9 51 "MixedWords" "least" "LMixedWords$Least;", Cond.fieldLink RX9 173 "MixedWords$Mix" "cells" "[[I", Cond.fieldLink RX9 184 "MixedWords$Mix" "heard" "[I", Cond.fieldLink RX9 147 "MixedWords$Mix" "height" "I", Cond.fieldLink RX9 106 "MixedWords$Mix" "width" "I", Cond.fieldLink RX9 192 "MixedWords$Least" "below" "J", Cond.constantLong RX9 209 (-1000000000000002), Cond.fieldLink RX9 196 "MixedWords$Least" "above" "[J", Cond.methodLink RX9 211 Lib.MathLoose.abs_long.x, Cond.static Lib.MathLoose.abs_long.x, Cond.initialized "java/lang/Math", Cond.code Lib.MathLoose.abs_long.x Lib.MathLoose.abs_long.code 2 (some .long), Cond.methodLink RX9 221 Lib.MathLoose.max_long.x, Cond.static Lib.MathLoose.max_long.x, Cond.code Lib.MathLoose.max_long.x Lib.MathLoose.max_long.code 4 (some .long), Cond.methodLink RX9 95 yX3_hasColumn, Cond.instanceMethod yX3_hasColumn, Cond.selects RX3 yX3_hasColumn yX3_hasColumn, Cond.initialized RX3, Cond.code yX3_hasColumn cX3_hasColumn 2 (some .boolean), Cond.fieldLink RX3 15 "MixedWords$Mix" "width" "I", Cond.methodLink RX9 188 yX2_solve]
noncomputable def wsX9_fraction_r2 : List Cond := [Cond.instanceMethod yX2_solve, Cond.selects RX2 yX2_solve yX2_solve, Cond.initialized RX2, Cond.code yX2_solve cX2_solve 7 none, Cond.fieldLink RX2 16 "MixedWords$Least" "right" "[J", Cond.fieldLink RX2 11 "MixedWords$Least" "square" "[[J", Cond.fieldLink RX2 48 "MixedWords$Least" "below" "J", Cond.fieldLink RX2 24 "MixedWords$Least" "above" "[J", Cond.static yX9_product, Cond.initialized RX9, Cond.code yX9_product cX9_product 6 (some .int), Cond.methodLink RX2 44 yX2_determinant, Cond.static yX2_determinant, Cond.code yX2_determinant cX2_determinant 9 (some .long), Cond.methodLink RX2 52 yX2_swapRight, Cond.instanceMethod yX2_swapRight, Cond.selects RX2 yX2_swapRight yX2_swapRight, Cond.code yX2_swapRight cX2_swapRight 6 none, Cond.methodLink RX9 217 yX9_commonDivisor, Cond.static yX9_commonDivisor, Cond.code yX9_commonDivisor cX9_commonDivisor 11 (some .long)]
noncomputable def wsX9_fraction : List Cond := .code yX9_fraction cX9_fraction 7 (some .long) :: ((wsX9_fraction_r1 ++ wsX9_fraction_r2) ++ wsX90 ++ wsX30 ++ wsX20)
noncomputable def wsX9_taken_r1 : List Cond := [Cond.fieldLink RX9 58 "MixedWords" "taker" "LMixedWords$Taker;", Cond.fieldLink RX9 12 "MixedWords" "mix" "LMixedWords$Mix;", Cond.fieldLink RX9 106 "MixedWords$Mix" "width" "I", Cond.fieldLink RX9 227 "MixedWords$Taker" "indexes" "[I", Cond.methodLink RX9 224 yX6_takeAll, Cond.instanceMethod yX6_takeAll, Cond.selects RX6 yX6_takeAll yX6_takeAll, Cond.initialized RX6, Cond.code yX6_takeAll cX6_takeAll 4 none, Cond.fieldLink RX6 21 "MixedWords$Taker" "mix" "LMixedWords$Mix;", Cond.fieldLink RX6 25 "MixedWords$Mix" "heard" "[I", Cond.fieldLink RX6 9 "MixedWords$Taker" "left" "[I", Cond.methodLink RX6 30 arraycopyName, Cond.native arraycopyName, Cond.static arraycopyName, Cond.initialized "java/lang/System", Cond.fieldLink RX6 36 "MixedWords$Mix" "width" "I", Cond.fieldLink RX6 15 "MixedWords$Taker" "sequence" "[I", Cond.methodLink RX6 40 yX6_greatest, Cond.instanceMethod yX6_greatest, Cond.selects RX6 yX6_greatest yX6_greatest, Cond.code yX6_greatest cX6_greatest 6 (some .int), Cond.fieldLink RX6 48 "MixedWords$Mix" "cells" "[[I", Cond.fieldLink RX6 52 "MixedWords$Mix" "height" "I"]
noncomputable def wsX9_taken_r2 : List Cond := [Cond.static yX9_product, Cond.initialized RX9, Cond.code yX9_product cX9_product 6 (some .int), Cond.methodLink RX6 44 yX6_takeOff, Cond.instanceMethod yX6_takeOff, Cond.selects RX6 yX6_takeOff yX6_takeOff, Cond.code yX6_takeOff cX6_takeOff 6 none, Cond.methodLink RX6 59 Lib.Math.max.name, Cond.static Lib.Math.max.name, Cond.initialized "java/lang/Math", Cond.code Lib.Math.max.name Lib.Math.max.code 2 (some .int), Cond.fieldLink RX6 18 "MixedWords$Taker" "indexes" "[I", Cond.fieldLink RX6 65 "MixedWords$Mix" "letterCount" "I", Cond.static yX9_nearestLetter, Cond.code yX9_nearestLetter cX9_nearestLetter 5 (some .int), Cond.constantLong RX9 303 (2), Cond.methodLink RX9 305 yX9_roundedUp, Cond.static yX9_roundedUp, Cond.code yX9_roundedUp cX9_roundedUp 4 (some .long), Cond.methodLink RX9 308 yJ9_floorDiv_f86c9, Cond.static yJ9_floorDiv_f86c9, Cond.initialized RJ9, Cond.code yJ9_floorDiv_f86c9 cJ9_floorDiv_f86c9 6 (some .long), Cond.methodLink RX9 255 yX9_held]
noncomputable def wsX9_taken_r3 : List Cond := [Cond.static yX9_held, Cond.code yX9_held cX9_held 3 (some .int), Cond.methodLink RX9 311 Lib.MathLoose.min_long.x, Cond.static Lib.MathLoose.min_long.x, Cond.code Lib.MathLoose.min_long.x Lib.MathLoose.min_long.code 4 (some .long), Cond.methodLink RX9 221 Lib.MathLoose.max_long.x, Cond.static Lib.MathLoose.max_long.x, Cond.code Lib.MathLoose.max_long.x Lib.MathLoose.max_long.code 4 (some .long), Cond.methodLink RX9 204 yX3_follow, Cond.instanceMethod yX3_follow, Cond.selects RX3 yX3_follow yX3_follow, Cond.initialized RX3, Cond.code yX3_follow cX3_follow 3 (some .int), Cond.fieldLink RX3 18 "MixedWords$Mix" "letterCount" "I"]
noncomputable def wsX9_taken : List Cond := .code yX9_taken cX9_taken 3 (some .int) :: ((wsX9_taken_r1 ++ (wsX9_taken_r2 ++ wsX9_taken_r3)) ++ wsX90 ++ wsX30 ++ wsX60)
noncomputable def wsX9_order_r1 : List Cond := [Cond.fieldLink RX9 12 "MixedWords" "mix" "LMixedWords$Mix;", Cond.fieldLink RX9 58 "MixedWords" "taker" "LMixedWords$Taker;", Cond.fieldLink RX9 230 "MixedWords$Taker" "sequence" "[I", Cond.methodLink RX9 95 yX3_hasColumn, Cond.instanceMethod yX3_hasColumn, Cond.selects RX3 yX3_hasColumn yX3_hasColumn, Cond.initialized RX3, Cond.code yX3_hasColumn cX3_hasColumn 2 (some .boolean), Cond.fieldLink RX3 15 "MixedWords$Mix" "width" "I", Cond.methodLink RX9 224 yX6_takeAll, Cond.instanceMethod yX6_takeAll, Cond.selects RX6 yX6_takeAll yX6_takeAll, Cond.initialized RX6, Cond.code yX6_takeAll cX6_takeAll 4 none, Cond.fieldLink RX6 21 "MixedWords$Taker" "mix" "LMixedWords$Mix;", Cond.fieldLink RX6 25 "MixedWords$Mix" "heard" "[I", Cond.fieldLink RX6 9 "MixedWords$Taker" "left" "[I", Cond.methodLink RX6 30 arraycopyName, Cond.native arraycopyName, Cond.static arraycopyName, Cond.initialized "java/lang/System", Cond.fieldLink RX6 36 "MixedWords$Mix" "width" "I", Cond.fieldLink RX6 15 "MixedWords$Taker" "sequence" "[I", Cond.methodLink RX6 40 yX6_greatest]
noncomputable def wsX9_order_r2 : List Cond := [Cond.instanceMethod yX6_greatest, Cond.selects RX6 yX6_greatest yX6_greatest, Cond.code yX6_greatest cX6_greatest 6 (some .int), Cond.fieldLink RX6 48 "MixedWords$Mix" "cells" "[[I", Cond.fieldLink RX6 52 "MixedWords$Mix" "height" "I", Cond.static yX9_product, Cond.initialized RX9, Cond.code yX9_product cX9_product 6 (some .int), Cond.methodLink RX6 44 yX6_takeOff, Cond.instanceMethod yX6_takeOff, Cond.selects RX6 yX6_takeOff yX6_takeOff, Cond.code yX6_takeOff cX6_takeOff 6 none, Cond.methodLink RX6 59 Lib.Math.max.name, Cond.static Lib.Math.max.name, Cond.initialized "java/lang/Math", Cond.code Lib.Math.max.name Lib.Math.max.code 2 (some .int), Cond.fieldLink RX6 18 "MixedWords$Taker" "indexes" "[I", Cond.fieldLink RX6 65 "MixedWords$Mix" "letterCount" "I", Cond.static yX9_nearestLetter, Cond.code yX9_nearestLetter cX9_nearestLetter 5 (some .int), Cond.constantLong RX9 303 (2), Cond.methodLink RX9 305 yX9_roundedUp, Cond.static yX9_roundedUp, Cond.code yX9_roundedUp cX9_roundedUp 4 (some .long)]
noncomputable def wsX9_order_r3 : List Cond := [Cond.methodLink RX9 308 yJ9_floorDiv_f86c9, Cond.static yJ9_floorDiv_f86c9, Cond.initialized RJ9, Cond.code yJ9_floorDiv_f86c9 cJ9_floorDiv_f86c9 6 (some .long), Cond.methodLink RX9 255 yX9_held, Cond.static yX9_held, Cond.code yX9_held cX9_held 3 (some .int), Cond.methodLink RX9 311 Lib.MathLoose.min_long.x, Cond.static Lib.MathLoose.min_long.x, Cond.code Lib.MathLoose.min_long.x Lib.MathLoose.min_long.code 4 (some .long), Cond.methodLink RX9 221 Lib.MathLoose.max_long.x, Cond.static Lib.MathLoose.max_long.x, Cond.code Lib.MathLoose.max_long.x Lib.MathLoose.max_long.code 4 (some .long)]
noncomputable def wsX9_order : List Cond := .code yX9_order cX9_order 2 (some .int) :: ((wsX9_order_r1 ++ (wsX9_order_r2 ++ wsX9_order_r3)) ++ wsX90 ++ wsX60 ++ wsX30)
noncomputable def wsX9_led_r1 : List Cond := [Cond.fieldLink RX9 65 "MixedWords" "leader" "LMixedWords$Leader;", Cond.fieldLink RX9 236 "MixedWords$Leader" "times" "I", Cond.methodLink RX9 233 yX1_lead, Cond.instanceMethod yX1_lead, Cond.selects RX1 yX1_lead yX1_lead, Cond.initialized RX1, Cond.code yX1_lead cX1_lead 1 none, Cond.fieldLink RX1 23 "MixedWords$Leader" "stamp" "I", Cond.fieldLink RX1 27 "MixedWords$Leader" "mix" "LMixedWords$Mix;", Cond.fieldLink RX1 31 "MixedWords$Mix" "stamp" "I", Cond.fieldLink RX1 37 "MixedWords$Leader" "times" "I", Cond.methodLink RX1 34 yX1_begin, Cond.instanceMethod yX1_begin, Cond.selects RX1 yX1_begin yX1_begin, Cond.code yX1_begin cX1_begin 3 none, Cond.fieldLink RX1 44 "MixedWords$Mix" "cells" "[[I", Cond.fieldLink RX1 11 "MixedWords$Leader" "columns" "[[I", Cond.methodLink RX1 47 arraycopyName, Cond.native arraycopyName, Cond.static arraycopyName, Cond.initialized "java/lang/System", Cond.fieldLink RX1 16 "MixedWords$Leader" "steps" "[[I", Cond.methodLink RX1 40 yX1_shortenFirst, Cond.instanceMethod yX1_shortenFirst]
noncomputable def wsX9_led_r2 : List Cond := [Cond.selects RX1 yX1_shortenFirst yX1_shortenFirst, Cond.code yX1_shortenFirst cX1_shortenFirst 4 (some .boolean), Cond.fieldLink RX1 53 "MixedWords$Mix" "width" "I", Cond.methodLink RX1 56 yX1_quotient, Cond.instanceMethod yX1_quotient, Cond.selects RX1 yX1_quotient yX1_quotient, Cond.code yX1_quotient cX1_quotient 6 (some .int), Cond.fieldLink RX1 64 "MixedWords$Mix" "height" "I", Cond.methodLink RX1 71 Lib.Math.abs.name, Cond.static Lib.Math.abs.name, Cond.initialized "java/lang/Math", Cond.code Lib.Math.abs.name Lib.Math.abs.code 1 (some .int), Cond.static yX9_product, Cond.initialized RX9, Cond.code yX9_product cX9_product 6 (some .int), Cond.methodLink RX1 60 yX1_shorten, Cond.instanceMethod yX1_shorten, Cond.selects RX1 yX1_shorten yX1_shorten, Cond.code yX1_shorten cX1_shorten 5 none]
noncomputable def wsX9_led : List Cond := .code yX9_led cX9_led 1 (some .int) :: ((wsX9_led_r1 ++ wsX9_led_r2) ++ wsX90 ++ wsX10 ++ wsX30)
noncomputable def wsX9_ledAt_r1 : List Cond := [Cond.fieldLink RX9 12 "MixedWords" "mix" "LMixedWords$Mix;", Cond.constant RX9 239 (-1000001), Cond.fieldLink RX9 65 "MixedWords" "leader" "LMixedWords$Leader;", Cond.fieldLink RX9 240 "MixedWords$Leader" "columns" "[[I", Cond.fieldLink RX9 243 "MixedWords$Leader" "steps" "[[I", Cond.methodLink RX9 95 yX3_hasColumn, Cond.instanceMethod yX3_hasColumn, Cond.selects RX3 yX3_hasColumn yX3_hasColumn, Cond.initialized RX3, Cond.code yX3_hasColumn cX3_hasColumn 2 (some .boolean), Cond.fieldLink RX3 15 "MixedWords$Mix" "width" "I", Cond.methodLink RX9 91 yX3_hasRow, Cond.instanceMethod yX3_hasRow, Cond.selects RX3 yX3_hasRow yX3_hasRow, Cond.code yX3_hasRow cX3_hasRow 2 (some .boolean), Cond.fieldLink RX3 9 "MixedWords$Mix" "height" "I", Cond.methodLink RX9 233 yX1_lead, Cond.instanceMethod yX1_lead, Cond.selects RX1 yX1_lead yX1_lead, Cond.initialized RX1, Cond.code yX1_lead cX1_lead 1 none, Cond.fieldLink RX1 23 "MixedWords$Leader" "stamp" "I", Cond.fieldLink RX1 27 "MixedWords$Leader" "mix" "LMixedWords$Mix;", Cond.fieldLink RX1 31 "MixedWords$Mix" "stamp" "I"]
noncomputable def wsX9_ledAt_r2 : List Cond := [Cond.fieldLink RX1 37 "MixedWords$Leader" "times" "I", Cond.methodLink RX1 34 yX1_begin, Cond.instanceMethod yX1_begin, Cond.selects RX1 yX1_begin yX1_begin, Cond.code yX1_begin cX1_begin 3 none, Cond.fieldLink RX1 44 "MixedWords$Mix" "cells" "[[I", Cond.fieldLink RX1 11 "MixedWords$Leader" "columns" "[[I", Cond.methodLink RX1 47 arraycopyName, Cond.native arraycopyName, Cond.static arraycopyName, Cond.initialized "java/lang/System", Cond.fieldLink RX1 16 "MixedWords$Leader" "steps" "[[I", Cond.methodLink RX1 40 yX1_shortenFirst, Cond.instanceMethod yX1_shortenFirst, Cond.selects RX1 yX1_shortenFirst yX1_shortenFirst, Cond.code yX1_shortenFirst cX1_shortenFirst 4 (some .boolean), Cond.fieldLink RX1 53 "MixedWords$Mix" "width" "I", Cond.methodLink RX1 56 yX1_quotient, Cond.instanceMethod yX1_quotient, Cond.selects RX1 yX1_quotient yX1_quotient, Cond.code yX1_quotient cX1_quotient 6 (some .int), Cond.fieldLink RX1 64 "MixedWords$Mix" "height" "I", Cond.methodLink RX1 71 Lib.Math.abs.name, Cond.static Lib.Math.abs.name]
noncomputable def wsX9_ledAt_r3 : List Cond := [Cond.initialized "java/lang/Math", Cond.code Lib.Math.abs.name Lib.Math.abs.code 1 (some .int), Cond.static yX9_product, Cond.initialized RX9, Cond.code yX9_product cX9_product 6 (some .int), Cond.methodLink RX1 60 yX1_shorten, Cond.instanceMethod yX1_shorten, Cond.selects RX1 yX1_shorten yX1_shorten, Cond.code yX1_shorten cX1_shorten 5 none]
noncomputable def wsX9_ledAt : List Cond := .code yX9_ledAt cX9_ledAt 5 (some .int) :: ((wsX9_ledAt_r1 ++ (wsX9_ledAt_r2 ++ wsX9_ledAt_r3)) ++ wsX90 ++ wsX10 ++ wsX30)
noncomputable def wsX9_nearestHalf : List Cond := .code yX9_nearestHalf cX9_nearestHalf 4 (some .long) :: ([.constantLong RX9 303 (2), .methodLink RX9 305 yX9_roundedUp, .static yX9_roundedUp, .initialized RX9, .code yX9_roundedUp cX9_roundedUp 4 (some .long), .methodLink RX9 308 yJ9_floorDiv_f86c9, .static yJ9_floorDiv_f86c9, .initialized RJ9, .code yJ9_floorDiv_f86c9 cJ9_floorDiv_f86c9 6 (some .long)])
noncomputable def wsX9_ledWord_r1 : List Cond := [Cond.fieldLink RX9 65 "MixedWords" "leader" "LMixedWords$Leader;", Cond.fieldLink RX9 51 "MixedWords" "least" "LMixedWords$Least;", Cond.fieldLink RX9 240 "MixedWords$Leader" "columns" "[[I", Cond.fieldLink RX9 249 "MixedWords$Leader" "target" "[I", Cond.fieldLink RX9 12 "MixedWords" "mix" "LMixedWords$Mix;", Cond.fieldLink RX9 147 "MixedWords$Mix" "height" "I", Cond.fieldLink RX9 106 "MixedWords$Mix" "width" "I", Cond.fieldLink RX9 192 "MixedWords$Least" "below" "J", Cond.fieldLink RX9 243 "MixedWords$Leader" "steps" "[[I", Cond.fieldLink RX9 196 "MixedWords$Least" "above" "[J", Cond.fieldLink RX9 83 "MixedWords$Mix" "letterCount" "I", Cond.methodLink RX9 233 yX1_lead, Cond.instanceMethod yX1_lead, Cond.selects RX1 yX1_lead yX1_lead, Cond.initialized RX1, Cond.code yX1_lead cX1_lead 1 none, Cond.fieldLink RX1 23 "MixedWords$Leader" "stamp" "I", Cond.fieldLink RX1 27 "MixedWords$Leader" "mix" "LMixedWords$Mix;", Cond.fieldLink RX1 31 "MixedWords$Mix" "stamp" "I", Cond.fieldLink RX1 37 "MixedWords$Leader" "times" "I", Cond.methodLink RX1 34 yX1_begin, Cond.instanceMethod yX1_begin, Cond.selects RX1 yX1_begin yX1_begin, Cond.code yX1_begin cX1_begin 3 none]
noncomputable def wsX9_ledWord_r2 : List Cond := [Cond.fieldLink RX1 44 "MixedWords$Mix" "cells" "[[I", Cond.fieldLink RX1 11 "MixedWords$Leader" "columns" "[[I", Cond.methodLink RX1 47 arraycopyName, Cond.native arraycopyName, Cond.static arraycopyName, Cond.initialized "java/lang/System", Cond.fieldLink RX1 16 "MixedWords$Leader" "steps" "[[I", Cond.methodLink RX1 40 yX1_shortenFirst, Cond.instanceMethod yX1_shortenFirst, Cond.selects RX1 yX1_shortenFirst yX1_shortenFirst, Cond.code yX1_shortenFirst cX1_shortenFirst 4 (some .boolean), Cond.fieldLink RX1 53 "MixedWords$Mix" "width" "I", Cond.methodLink RX1 56 yX1_quotient, Cond.instanceMethod yX1_quotient, Cond.selects RX1 yX1_quotient yX1_quotient, Cond.code yX1_quotient cX1_quotient 6 (some .int), Cond.fieldLink RX1 64 "MixedWords$Mix" "height" "I", Cond.methodLink RX1 71 Lib.Math.abs.name, Cond.static Lib.Math.abs.name, Cond.initialized "java/lang/Math", Cond.code Lib.Math.abs.name Lib.Math.abs.code 1 (some .int), Cond.static yX9_product, Cond.initialized RX9, Cond.code yX9_product cX9_product 6 (some .int)]
noncomputable def wsX9_ledWord_r3 : List Cond := [Cond.methodLink RX1 60 yX1_shorten, Cond.instanceMethod yX1_shorten, Cond.selects RX1 yX1_shorten yX1_shorten, Cond.code yX1_shorten cX1_shorten 5 none, Cond.methodLink RX9 246 yX1_aim, Cond.instanceMethod yX1_aim, Cond.selects RX1 yX1_aim yX1_aim, Cond.code yX1_aim cX1_aim 4 none, Cond.fieldLink RX1 19 "MixedWords$Leader" "target" "[I", Cond.fieldLink RX1 77 "MixedWords$Mix" "heard" "[I", Cond.fieldLink RX1 80 "MixedWords$Mix" "letterCount" "I", Cond.methodLink RX9 188 yX2_solve, Cond.instanceMethod yX2_solve, Cond.selects RX2 yX2_solve yX2_solve, Cond.initialized RX2, Cond.code yX2_solve cX2_solve 7 none, Cond.fieldLink RX2 16 "MixedWords$Least" "right" "[J", Cond.fieldLink RX2 11 "MixedWords$Least" "square" "[[J", Cond.fieldLink RX2 48 "MixedWords$Least" "below" "J", Cond.fieldLink RX2 24 "MixedWords$Least" "above" "[J", Cond.methodLink RX2 44 yX2_determinant, Cond.static yX2_determinant, Cond.code yX2_determinant cX2_determinant 9 (some .long), Cond.methodLink RX2 52 yX2_swapRight]
noncomputable def wsX9_ledWord_r4 : List Cond := [Cond.instanceMethod yX2_swapRight, Cond.selects RX2 yX2_swapRight yX2_swapRight, Cond.code yX2_swapRight cX2_swapRight 6 none, Cond.methodLink RX9 252 yX9_nearestHalf, Cond.static yX9_nearestHalf, Cond.code yX9_nearestHalf cX9_nearestHalf 4 (some .long), Cond.constantLong RX9 303 (2), Cond.methodLink RX9 305 yX9_roundedUp, Cond.static yX9_roundedUp, Cond.code yX9_roundedUp cX9_roundedUp 4 (some .long), Cond.methodLink RX9 308 yJ9_floorDiv_f86c9, Cond.static yJ9_floorDiv_f86c9, Cond.initialized RJ9, Cond.code yJ9_floorDiv_f86c9 cJ9_floorDiv_f86c9 6 (some .long), Cond.methodLink RX9 255 yX9_held, Cond.static yX9_held, Cond.code yX9_held cX9_held 3 (some .int), Cond.methodLink RX9 311 Lib.MathLoose.min_long.x, Cond.static Lib.MathLoose.min_long.x, Cond.code Lib.MathLoose.min_long.x Lib.MathLoose.min_long.code 4 (some .long), Cond.methodLink RX9 221 Lib.MathLoose.max_long.x, Cond.static Lib.MathLoose.max_long.x, Cond.code Lib.MathLoose.max_long.x Lib.MathLoose.max_long.code 4 (some .long), Cond.methodLink RX9 204 yX3_follow]
noncomputable def wsX9_ledWord_r5 : List Cond := [Cond.instanceMethod yX3_follow, Cond.selects RX3 yX3_follow yX3_follow, Cond.initialized RX3, Cond.code yX3_follow cX3_follow 3 (some .int), Cond.fieldLink RX3 18 "MixedWords$Mix" "letterCount" "I"]
noncomputable def wsX9_ledWord : List Cond := .code yX9_ledWord cX9_ledWord 6 (some .int) :: ((wsX9_ledWord_r1 ++ (wsX9_ledWord_r2 ++ (wsX9_ledWord_r3 ++ (wsX9_ledWord_r4 ++ wsX9_ledWord_r5)))) ++ wsX90 ++ wsX10 ++ wsX30 ++ wsX20)
noncomputable def wsX9_mirror : List Cond := .code yX9_mirror cX9_mirror 4 (some .int) :: ([])
noncomputable def wsJ6_bitCount_0f7a4 : List Cond := .code yJ6_bitCount_0f7a4 cJ6_bitCount_0f7a4 1 (some .int) :: ([.constant RJ6 265 (1431655765), .constant RJ6 266 (858993459), .constant RJ6 267 (252645135)])
noncomputable def wsX9_chosen_r1 : List Cond := [Cond.fieldLink RX9 12 "MixedWords" "mix" "LMixedWords$Mix;", Cond.fieldLink RX9 106 "MixedWords$Mix" "width" "I", Cond.constantLong RX9 178 (-1), Cond.fieldLink RX9 51 "MixedWords" "least" "LMixedWords$Least;", Cond.methodLink RX9 258 yX9_mirror, Cond.static yX9_mirror, Cond.initialized RX9, Cond.code yX9_mirror cX9_mirror 4 (some .int), Cond.methodLink RX9 261 yJ6_bitCount_0f7a4, Cond.static yJ6_bitCount_0f7a4, Cond.initialized RJ6, Cond.code yJ6_bitCount_0f7a4 cJ6_bitCount_0f7a4 1 (some .int), Cond.constant RJ6 265 (1431655765), Cond.constant RJ6 266 (858993459), Cond.constant RJ6 267 (252645135), Cond.methodLink RX9 180 yX2_worthOf, Cond.instanceMethod yX2_worthOf, Cond.selects RX2 yX2_worthOf yX2_worthOf, Cond.initialized RX2, Cond.code yX2_worthOf cX2_worthOf 6 (some .long), Cond.fieldLink RX2 27 "MixedWords$Mix" "width" "I", Cond.fieldLink RX2 20 "MixedWords$Least" "picked" "[I", Cond.fieldLink RX2 11 "MixedWords$Least" "square" "[[J", Cond.fieldLink RX2 33 "MixedWords$Mix" "cells" "[[I"]
noncomputable def wsX9_chosen_r2 : List Cond := [Cond.fieldLink RX2 37 "MixedWords$Mix" "height" "I", Cond.static yX9_product, Cond.code yX9_product cX9_product 6 (some .int), Cond.methodLink RX2 44 yX2_determinant, Cond.static yX2_determinant, Cond.code yX2_determinant cX2_determinant 9 (some .long)]
noncomputable def wsX9_chosen : List Cond := .code yX9_chosen cX9_chosen 9 (some .int) :: ((wsX9_chosen_r1 ++ wsX9_chosen_r2) ++ wsX90 ++ wsX30 ++ wsX20)
noncomputable def wsX9_isSheet : List Cond := .code yX9_isSheet cX9_isSheet 1 (some .boolean) :: ([])
noncomputable def wsX9_isLane : List Cond := .code yX9_isLane cX9_isLane 1 (some .boolean) :: ([])
noncomputable def wsX9_sheet : List Cond := .code yX9_sheet cX9_sheet 4 (some .int) :: ([.fieldLink RX9 71 "MixedWords" "sheets" "[LMixedWords$Sheet;", .methodLink RX9 266 yX9_isSheet, .static yX9_isSheet, .initialized RX9, .code yX9_isSheet cX9_isSheet 1 (some .boolean), .methodLink RX9 269 yX9_isLane, .static yX9_isLane, .code yX9_isLane cX9_isLane 1 (some .boolean), .methodLink RX9 272 yX5_renew, .instanceMethod yX5_renew, .selects RX5 yX5_renew yX5_renew, .initialized RX5, .code yX5_renew cX5_renew 3 none, .fieldLink RX5 11 "MixedWords$Sheet" "lane" "I", .fieldLink RX5 15 "MixedWords$Sheet" "length" "I", .fieldLink RX5 18 "MixedWords$Sheet" "items" "[J", .methodLink RX5 22 yJ7_fill_d0a16, .static yJ7_fill_d0a16, .initialized RJ7, .code yJ7_fill_d0a16 cJ7_fill_d0a16 5 none] ++ wsX90 ++ wsX50)
noncomputable def wsX9_drop : List Cond := .code yX9_drop cX9_drop 3 (some .int) :: ([.fieldLink RX9 71 "MixedWords" "sheets" "[LMixedWords$Sheet;", .fieldLink RX9 278 "MixedWords$Sheet" "length" "I", .methodLink RX9 266 yX9_isSheet, .static yX9_isSheet, .initialized RX9, .code yX9_isSheet cX9_isSheet 1 (some .boolean), .methodLink RX9 275 yX5_holds, .instanceMethod yX5_holds, .selects RX5 yX5_holds yX5_holds, .initialized RX5, .code yX5_holds cX5_holds 1 (some .boolean), .fieldLink RX5 11 "MixedWords$Sheet" "lane" "I", .methodLink RX9 281 yX5_empty, .instanceMethod yX5_empty, .selects RX5 yX5_empty yX5_empty, .code yX5_empty cX5_empty 1 none, .fieldLink RX5 15 "MixedWords$Sheet" "length" "I"] ++ wsX90 ++ wsX50)
noncomputable def wsX9_refusal : List Cond := .code yX9_refusal cX9_refusal 5 (some .int) :: ([.fieldLink RX9 71 "MixedWords" "sheets" "[LMixedWords$Sheet;", .fieldLink RX9 300 "MixedWords$Sheet" "lane" "I", .fieldLink RX9 278 "MixedWords$Sheet" "length" "I", .methodLink RX9 266 yX9_isSheet, .static yX9_isSheet, .initialized RX9, .code yX9_isSheet cX9_isSheet 1 (some .boolean), .methodLink RX9 269 yX9_isLane, .static yX9_isLane, .code yX9_isLane cX9_isLane 1 (some .boolean), .methodLink RX9 275 yX5_holds, .instanceMethod yX5_holds, .selects RX5 yX5_holds yX5_holds, .initialized RX5, .code yX5_holds cX5_holds 1 (some .boolean), .fieldLink RX5 11 "MixedWords$Sheet" "lane" "I"] ++ wsX90 ++ wsX50)
noncomputable def wsX9_item_r1 : List Cond := [Cond.fieldLink RX9 71 "MixedWords" "sheets" "[LMixedWords$Sheet;", Cond.methodLink RX9 284 yX9_refusal, Cond.instanceMethod yX9_refusal, Cond.selects RX9 yX9_refusal yX9_refusal, Cond.initialized RX9, Cond.code yX9_refusal cX9_refusal 5 (some .int), Cond.fieldLink RX9 300 "MixedWords$Sheet" "lane" "I", Cond.fieldLink RX9 278 "MixedWords$Sheet" "length" "I", Cond.methodLink RX9 266 yX9_isSheet, Cond.static yX9_isSheet, Cond.code yX9_isSheet cX9_isSheet 1 (some .boolean), Cond.methodLink RX9 269 yX9_isLane, Cond.static yX9_isLane, Cond.code yX9_isLane cX9_isLane 1 (some .boolean), Cond.methodLink RX9 275 yX5_holds, Cond.instanceMethod yX5_holds, Cond.selects RX5 yX5_holds yX5_holds, Cond.initialized RX5, Cond.code yX5_holds cX5_holds 1 (some .boolean), Cond.fieldLink RX5 11 "MixedWords$Sheet" "lane" "I", Cond.methodLink RX9 288 yX5_put, Cond.instanceMethod yX5_put, Cond.selects RX5 yX5_put yX5_put, Cond.code yX5_put cX5_put 3 none]
noncomputable def wsX9_item_r2 : List Cond := [Cond.fieldLink RX5 18 "MixedWords$Sheet" "items" "[J"]
noncomputable def wsX9_item : List Cond := .code yX9_item cX9_item 6 (some .int) :: ((wsX9_item_r1 ++ wsX9_item_r2) ++ wsX90 ++ wsX50)
noncomputable def wsX9_rows_r1 : List Cond := [Cond.fieldLink RX9 12 "MixedWords" "mix" "LMixedWords$Mix;", Cond.fieldLink RX9 147 "MixedWords$Mix" "height" "I", Cond.fieldLink RX9 106 "MixedWords$Mix" "width" "I", Cond.fieldLink RX9 71 "MixedWords" "sheets" "[LMixedWords$Sheet;", Cond.fieldLink RX9 290 "MixedWords$Sheet" "items" "[J", Cond.fieldLink RX9 21 "MixedWords" "acts" "LMixedWords$Acts;", Cond.methodLink RX9 284 yX9_refusal, Cond.instanceMethod yX9_refusal, Cond.selects RX9 yX9_refusal yX9_refusal, Cond.initialized RX9, Cond.code yX9_refusal cX9_refusal 5 (some .int), Cond.fieldLink RX9 300 "MixedWords$Sheet" "lane" "I", Cond.fieldLink RX9 278 "MixedWords$Sheet" "length" "I", Cond.methodLink RX9 266 yX9_isSheet, Cond.static yX9_isSheet, Cond.code yX9_isSheet cX9_isSheet 1 (some .boolean), Cond.methodLink RX9 269 yX9_isLane, Cond.static yX9_isLane, Cond.code yX9_isLane cX9_isLane 1 (some .boolean), Cond.methodLink RX9 275 yX5_holds, Cond.instanceMethod yX5_holds, Cond.selects RX5 yX5_holds yX5_holds, Cond.initialized RX5, Cond.code yX5_holds cX5_holds 1 (some .boolean)]
noncomputable def wsX9_rows_r2 : List Cond := [Cond.fieldLink RX5 11 "MixedWords$Sheet" "lane" "I", Cond.methodLink RX9 293 yX3_takes, Cond.instanceMethod yX3_takes, Cond.selects RX3 yX3_takes yX3_takes, Cond.initialized RX3, Cond.code yX3_takes cX3_takes 6 (some .boolean), Cond.fieldLink RX3 9 "MixedWords$Mix" "height" "I", Cond.fieldLink RX3 15 "MixedWords$Mix" "width" "I", Cond.static yX9_within, Cond.code yX9_within cX9_within 3 (some .boolean), Cond.methodLink RX9 296 yX3_copy, Cond.instanceMethod yX3_copy, Cond.selects RX3 yX3_copy yX3_copy, Cond.code yX3_copy cX3_copy 6 none, Cond.methodLink RX3 47 yX3_put, Cond.instanceMethod yX3_put, Cond.selects RX3 yX3_put yX3_put, Cond.code yX3_put cX3_put 4 none, Cond.fieldLink RX3 29 "MixedWords$Mix" "heard" "[I", Cond.fieldLink RX3 26 "MixedWords$Mix" "cells" "[[I", Cond.fieldLink RX3 21 "MixedWords$Mix" "stamp" "I", Cond.methodLink RX9 80 yX0_forget, Cond.instanceMethod yX0_forget, Cond.selects RX0 yX0_forget yX0_forget]
noncomputable def wsX9_rows_r3 : List Cond := [Cond.initialized RX0, Cond.code yX0_forget cX0_forget 1 none, Cond.fieldLink RX0 22 "MixedWords$Acts" "oldest" "I", Cond.fieldLink RX0 26 "MixedWords$Acts" "back" "I", Cond.fieldLink RX0 29 "MixedWords$Acts" "on" "I"]
noncomputable def wsX9_rows : List Cond := .code yX9_rows cX9_rows 5 (some .int) :: ((wsX9_rows_r1 ++ (wsX9_rows_r2 ++ wsX9_rows_r3)) ++ wsX90 ++ wsX30 ++ wsX50 ++ wsX00)
noncomputable def wsX10_in : List Cond := .code yX10_in cX10_in 6 (some .boolean) :: ([])
noncomputable def wsX10_init : List Cond := .code yX10_init cX10_init 2 none :: ([.methodLink RX10 1 objectInit, .instanceMethod objectInit, .code objectInit ⟨#[0xb1]⟩ 1 none, .fieldLink RX10 7 "MixedWordsModel" "rows" "I", .fieldLink RX10 13 "MixedWordsModel" "columns" "I", .fieldLink RX10 16 "MixedWordsModel" "a" "I", .arrayClass .int, .fieldLink RX10 19 "MixedWordsModel" "told" "[I", .fieldLink RX10 23 "MixedWordsModel" "actPlace" "[I", .fieldLink RX10 26 "MixedWordsModel" "actWas" "[I", .fieldLink RX10 29 "MixedWordsModel" "actIs" "[I", .fieldLink RX10 32 "MixedWordsModel" "tape" "[I", .fieldLink RX10 35 "MixedWordsModel" "readAt" "[I", .fieldLink RX10 38 "MixedWordsModel" "offs" "[I", .fieldLink RX10 41 "MixedWordsModel" "cols" "[I", .fieldLink RX10 44 "MixedWordsModel" "trans" "[I", .arrayClass .long, .fieldLink RX10 47 "MixedWordsModel" "square" "[J", .fieldLink RX10 51 "MixedWordsModel" "met" "[I", .fieldLink RX10 54 "MixedWordsModel" "letters" "[I", .fieldLink RX10 57 "MixedWordsModel" "wholes" "[J", .fieldLink RX10 60 "MixedWordsModel" "lanes" "[I", .fieldLink RX10 63 "MixedWordsModel" "sizes" "[I", .fieldLink RX10 66 "MixedWordsModel" "items" "[I"] ++ wsX100)
noncomputable def wsX10_place : List Cond := .code yX10_place cX10_place 3 (some .int) :: ([.fieldLink RX10 13 "MixedWordsModel" "columns" "I"] ++ wsX100)
noncomputable def wsX10_forget : List Cond := .code yX10_forget cX10_forget 1 none :: ([.fieldLink RX10 69 "MixedWordsModel" "done" "I", .fieldLink RX10 72 "MixedWordsModel" "undone" "I"] ++ wsX100)
noncomputable def wsX10_table : List Cond := .code yX10_table cX10_table 4 (some .int) :: ([.constantLong RX10 75 (5), .constantLong RX10 81 (4), .fieldLink RX10 7 "MixedWordsModel" "rows" "I", .fieldLink RX10 13 "MixedWordsModel" "columns" "I", .fieldLink RX10 19 "MixedWordsModel" "told" "[I", .methodLink RX10 77 yX10_in, .static yX10_in, .initialized RX10, .code yX10_in cX10_in 6 (some .boolean), .methodLink RX10 83 yX10_forget, .instanceMethod yX10_forget, .selects RX10 yX10_forget yX10_forget, .code yX10_forget cX10_forget 1 none, .fieldLink RX10 69 "MixedWordsModel" "done" "I", .fieldLink RX10 72 "MixedWordsModel" "undone" "I"] ++ wsX100)
noncomputable def wsX10_letters : List Cond := .code yX10_letters cX10_letters 3 (some .int) :: ([.fieldLink RX10 16 "MixedWordsModel" "a" "I", .methodLink RX10 83 yX10_forget, .instanceMethod yX10_forget, .selects RX10 yX10_forget yX10_forget, .initialized RX10, .code yX10_forget cX10_forget 1 none, .fieldLink RX10 69 "MixedWordsModel" "done" "I", .fieldLink RX10 72 "MixedWordsModel" "undone" "I"] ++ wsX100)
noncomputable def wsX10_isRow : List Cond := .code yX10_isRow cX10_isRow 2 (some .boolean) :: ([.fieldLink RX10 7 "MixedWordsModel" "rows" "I", .methodLink RX10 77 yX10_in, .static yX10_in, .initialized RX10, .code yX10_in cX10_in 6 (some .boolean)] ++ wsX100)
noncomputable def wsX10_isColumn : List Cond := .code yX10_isColumn cX10_isColumn 2 (some .boolean) :: ([.fieldLink RX10 13 "MixedWordsModel" "columns" "I", .methodLink RX10 77 yX10_in, .static yX10_in, .initialized RX10, .code yX10_in cX10_in 6 (some .boolean)] ++ wsX100)
noncomputable def wsX10_act : List Cond := .code yX10_act cX10_act 4 (some .int) :: ([.fieldLink RX10 69 "MixedWordsModel" "done" "I", .fieldLink RX10 23 "MixedWordsModel" "actPlace" "[I", .fieldLink RX10 26 "MixedWordsModel" "actWas" "[I", .fieldLink RX10 29 "MixedWordsModel" "actIs" "[I", .fieldLink RX10 19 "MixedWordsModel" "told" "[I", .fieldLink RX10 72 "MixedWordsModel" "undone" "I"] ++ wsX100)
noncomputable def wsX10_set_r1 : List Cond := [Cond.constantLong RX10 93 (-9), Cond.constantLong RX10 95 (9), Cond.methodLink RX10 86 yX10_isRow, Cond.instanceMethod yX10_isRow, Cond.selects RX10 yX10_isRow yX10_isRow, Cond.initialized RX10, Cond.code yX10_isRow cX10_isRow 2 (some .boolean), Cond.fieldLink RX10 7 "MixedWordsModel" "rows" "I", Cond.methodLink RX10 77 yX10_in, Cond.static yX10_in, Cond.code yX10_in cX10_in 6 (some .boolean), Cond.methodLink RX10 90 yX10_isColumn, Cond.instanceMethod yX10_isColumn, Cond.selects RX10 yX10_isColumn yX10_isColumn, Cond.code yX10_isColumn cX10_isColumn 2 (some .boolean), Cond.fieldLink RX10 13 "MixedWordsModel" "columns" "I", Cond.methodLink RX10 97 yX10_place, Cond.instanceMethod yX10_place, Cond.selects RX10 yX10_place yX10_place, Cond.code yX10_place cX10_place 3 (some .int), Cond.methodLink RX10 101 yX10_act, Cond.instanceMethod yX10_act, Cond.selects RX10 yX10_act yX10_act, Cond.code yX10_act cX10_act 4 (some .int)]
noncomputable def wsX10_set_r2 : List Cond := [Cond.fieldLink RX10 69 "MixedWordsModel" "done" "I", Cond.fieldLink RX10 23 "MixedWordsModel" "actPlace" "[I", Cond.fieldLink RX10 26 "MixedWordsModel" "actWas" "[I", Cond.fieldLink RX10 29 "MixedWordsModel" "actIs" "[I", Cond.fieldLink RX10 19 "MixedWordsModel" "told" "[I", Cond.fieldLink RX10 72 "MixedWordsModel" "undone" "I"]
noncomputable def wsX10_set : List Cond := .code yX10_set cX10_set 4 (some .int) :: ((wsX10_set_r1 ++ wsX10_set_r2) ++ wsX100)
noncomputable def wsX10_hear_r1 : List Cond := [Cond.constantLong RX10 104 (-999), Cond.constantLong RX10 106 (999), Cond.fieldLink RX10 13 "MixedWordsModel" "columns" "I", Cond.methodLink RX10 86 yX10_isRow, Cond.instanceMethod yX10_isRow, Cond.selects RX10 yX10_isRow yX10_isRow, Cond.initialized RX10, Cond.code yX10_isRow cX10_isRow 2 (some .boolean), Cond.fieldLink RX10 7 "MixedWordsModel" "rows" "I", Cond.methodLink RX10 77 yX10_in, Cond.static yX10_in, Cond.code yX10_in cX10_in 6 (some .boolean), Cond.methodLink RX10 97 yX10_place, Cond.instanceMethod yX10_place, Cond.selects RX10 yX10_place yX10_place, Cond.code yX10_place cX10_place 3 (some .int), Cond.methodLink RX10 101 yX10_act, Cond.instanceMethod yX10_act, Cond.selects RX10 yX10_act yX10_act, Cond.code yX10_act cX10_act 4 (some .int), Cond.fieldLink RX10 69 "MixedWordsModel" "done" "I", Cond.fieldLink RX10 23 "MixedWordsModel" "actPlace" "[I", Cond.fieldLink RX10 26 "MixedWordsModel" "actWas" "[I", Cond.fieldLink RX10 29 "MixedWordsModel" "actIs" "[I"]
noncomputable def wsX10_hear_r2 : List Cond := [Cond.fieldLink RX10 19 "MixedWordsModel" "told" "[I", Cond.fieldLink RX10 72 "MixedWordsModel" "undone" "I"]
noncomputable def wsX10_hear : List Cond := .code yX10_hear cX10_hear 3 (some .int) :: ((wsX10_hear_r1 ++ wsX10_hear_r2) ++ wsX100)
noncomputable def wsX10_undo : List Cond := .code yX10_undo cX10_undo 1 (some .int) :: ([.fieldLink RX10 69 "MixedWordsModel" "done" "I", .fieldLink RX10 72 "MixedWordsModel" "undone" "I", .fieldLink RX10 19 "MixedWordsModel" "told" "[I", .fieldLink RX10 23 "MixedWordsModel" "actPlace" "[I", .fieldLink RX10 26 "MixedWordsModel" "actWas" "[I"] ++ wsX100)
noncomputable def wsX10_redo : List Cond := .code yX10_redo cX10_redo 1 (some .int) :: ([.fieldLink RX10 72 "MixedWordsModel" "undone" "I", .fieldLink RX10 19 "MixedWordsModel" "told" "[I", .fieldLink RX10 23 "MixedWordsModel" "actPlace" "[I", .fieldLink RX10 69 "MixedWordsModel" "done" "I", .fieldLink RX10 29 "MixedWordsModel" "actIs" "[I"] ++ wsX100)
noncomputable def wsX10_told : List Cond := .code yX10_told cX10_told 3 (some .int) :: ([.fieldLink RX10 13 "MixedWordsModel" "columns" "I", .fieldLink RX10 19 "MixedWordsModel" "told" "[I", .methodLink RX10 86 yX10_isRow, .instanceMethod yX10_isRow, .selects RX10 yX10_isRow yX10_isRow, .initialized RX10, .code yX10_isRow cX10_isRow 2 (some .boolean), .fieldLink RX10 7 "MixedWordsModel" "rows" "I", .methodLink RX10 77 yX10_in, .static yX10_in, .code yX10_in cX10_in 6 (some .boolean), .methodLink RX10 97 yX10_place, .instanceMethod yX10_place, .selects RX10 yX10_place yX10_place, .code yX10_place cX10_place 3 (some .int)] ++ wsX100)
noncomputable def wsX10_type : List Cond := .code yX10_type cX10_type 5 (some .int) :: ([.constantLong RX10 108 (8), .constantLong RX10 110 (255), .constantLong RX10 112 (32), .constantLong RX10 114 (126), .fieldLink RX10 116 "MixedWordsModel" "taped" "I", .fieldLink RX10 32 "MixedWordsModel" "tape" "[I", .methodLink RX10 77 yX10_in, .static yX10_in, .initialized RX10, .code yX10_in cX10_in 6 (some .boolean)] ++ wsX100)
noncomputable def wsX10_next : List Cond := .code yX10_next cX10_next 1 (some .int) :: ([.fieldLink RX10 119 "MixedWordsModel" "at" "I", .fieldLink RX10 116 "MixedWordsModel" "taped" "I", .fieldLink RX10 32 "MixedWordsModel" "tape" "[I"] ++ wsX100)
noncomputable def wsX10_fails : List Cond := .code yX10_fails cX10_fails 2 none :: ([.fieldLink RX10 122 "MixedWordsModel" "wrong" "I"] ++ wsX100)
noncomputable def wsX10_number : List Cond := .code yX10_number cX10_number 4 (some .int) :: ([.fieldLink RX10 119 "MixedWordsModel" "at" "I", .constantLong RX10 129 (48), .constantLong RX10 131 (57), .fieldLink RX10 116 "MixedWordsModel" "taped" "I", .fieldLink RX10 32 "MixedWordsModel" "tape" "[I", .methodLink RX10 125 yX10_next, .instanceMethod yX10_next, .selects RX10 yX10_next yX10_next, .initialized RX10, .code yX10_next cX10_next 1 (some .int), .methodLink RX10 77 yX10_in, .static yX10_in, .code yX10_in cX10_in 6 (some .boolean), .methodLink RX10 133 yX10_fails, .instanceMethod yX10_fails, .selects RX10 yX10_fails yX10_fails, .code yX10_fails cX10_fails 2 none, .fieldLink RX10 122 "MixedWordsModel" "wrong" "I"] ++ wsX100)
noncomputable def wsX10_row : List Cond := .code yX10_row cX10_row 4 (some .int) :: ([.fieldLink RX10 35 "MixedWordsModel" "readAt" "[I", .fieldLink RX10 137 "MixedWordsModel" "readRows" "I", .fieldLink RX10 122 "MixedWordsModel" "wrong" "I", .fieldLink RX10 119 "MixedWordsModel" "at" "I", .methodLink RX10 140 yX10_number, .instanceMethod yX10_number, .selects RX10 yX10_number yX10_number, .initialized RX10, .code yX10_number cX10_number 4 (some .int), .constantLong RX10 129 (48), .constantLong RX10 131 (57), .fieldLink RX10 116 "MixedWordsModel" "taped" "I", .fieldLink RX10 32 "MixedWordsModel" "tape" "[I", .methodLink RX10 125 yX10_next, .instanceMethod yX10_next, .selects RX10 yX10_next yX10_next, .code yX10_next cX10_next 1 (some .int), .methodLink RX10 77 yX10_in, .static yX10_in, .code yX10_in cX10_in 6 (some .boolean), .methodLink RX10 133 yX10_fails, .instanceMethod yX10_fails, .selects RX10 yX10_fails yX10_fails, .code yX10_fails cX10_fails 2 none] ++ wsX100)
noncomputable def wsX10_read_r1 : List Cond := [Cond.fieldLink RX10 119 "MixedWordsModel" "at" "I", Cond.fieldLink RX10 122 "MixedWordsModel" "wrong" "I", Cond.fieldLink RX10 137 "MixedWordsModel" "readRows" "I", Cond.fieldLink RX10 143 "MixedWordsModel" "readColumns" "I", Cond.fieldLink RX10 116 "MixedWordsModel" "taped" "I", Cond.fieldLink RX10 7 "MixedWordsModel" "rows" "I", Cond.fieldLink RX10 13 "MixedWordsModel" "columns" "I", Cond.fieldLink RX10 19 "MixedWordsModel" "told" "[I", Cond.fieldLink RX10 35 "MixedWordsModel" "readAt" "[I", Cond.methodLink RX10 146 yX10_row, Cond.instanceMethod yX10_row, Cond.selects RX10 yX10_row yX10_row, Cond.initialized RX10, Cond.code yX10_row cX10_row 4 (some .int), Cond.methodLink RX10 140 yX10_number, Cond.instanceMethod yX10_number, Cond.selects RX10 yX10_number yX10_number, Cond.code yX10_number cX10_number 4 (some .int), Cond.constantLong RX10 129 (48), Cond.constantLong RX10 131 (57), Cond.fieldLink RX10 32 "MixedWordsModel" "tape" "[I", Cond.methodLink RX10 125 yX10_next, Cond.instanceMethod yX10_next, Cond.selects RX10 yX10_next yX10_next]
noncomputable def wsX10_read_r2 : List Cond := [Cond.code yX10_next cX10_next 1 (some .int), Cond.methodLink RX10 77 yX10_in, Cond.static yX10_in, Cond.code yX10_in cX10_in 6 (some .boolean), Cond.methodLink RX10 133 yX10_fails, Cond.instanceMethod yX10_fails, Cond.selects RX10 yX10_fails yX10_fails, Cond.code yX10_fails cX10_fails 2 none, Cond.methodLink RX10 150 yX10_table, Cond.instanceMethod yX10_table, Cond.selects RX10 yX10_table yX10_table, Cond.code yX10_table cX10_table 4 (some .int), Cond.constantLong RX10 75 (5), Cond.constantLong RX10 81 (4), Cond.methodLink RX10 83 yX10_forget, Cond.instanceMethod yX10_forget, Cond.selects RX10 yX10_forget yX10_forget, Cond.code yX10_forget cX10_forget 1 none, Cond.fieldLink RX10 69 "MixedWordsModel" "done" "I", Cond.fieldLink RX10 72 "MixedWordsModel" "undone" "I", Cond.methodLink RX10 97 yX10_place, Cond.instanceMethod yX10_place, Cond.selects RX10 yX10_place yX10_place, Cond.code yX10_place cX10_place 3 (some .int)]
noncomputable def wsX10_read : List Cond := .code yX10_read cX10_read 5 (some .int) :: ((wsX10_read_r1 ++ wsX10_read_r2) ++ wsX100)
noncomputable def wsX10_words : List Cond := .code yX10_words cX10_words 3 (some .int) :: ([.fieldLink RX10 13 "MixedWordsModel" "columns" "I", .fieldLink RX10 16 "MixedWordsModel" "a" "I"] ++ wsX100)
noncomputable def wsX10_isWord : List Cond := .code yX10_isWord cX10_isWord 2 (some .boolean) :: ([.methodLink RX10 153 yX10_words, .instanceMethod yX10_words, .selects RX10 yX10_words yX10_words, .initialized RX10, .code yX10_words cX10_words 3 (some .int), .fieldLink RX10 13 "MixedWordsModel" "columns" "I", .fieldLink RX10 16 "MixedWordsModel" "a" "I", .methodLink RX10 77 yX10_in, .static yX10_in, .code yX10_in cX10_in 6 (some .boolean)] ++ wsX100)
noncomputable def wsX10_letter : List Cond := .code yX10_letter cX10_letter 5 (some .int) :: ([.fieldLink RX10 13 "MixedWordsModel" "columns" "I", .fieldLink RX10 16 "MixedWordsModel" "a" "I"] ++ wsX100)
noncomputable def wsX10_numberOf : List Cond := .code yX10_numberOf cX10_numberOf 4 (some .int) :: ([.fieldLink RX10 13 "MixedWordsModel" "columns" "I", .fieldLink RX10 16 "MixedWordsModel" "a" "I"] ++ wsX100)
noncomputable def wsX10_offOf : List Cond := .code yX10_offOf cX10_offOf 6 (some .int) :: ([.fieldLink RX10 7 "MixedWordsModel" "rows" "I", .fieldLink RX10 19 "MixedWordsModel" "told" "[I", .fieldLink RX10 13 "MixedWordsModel" "columns" "I", .methodLink RX10 156 yX10_letter, .instanceMethod yX10_letter, .selects RX10 yX10_letter yX10_letter, .initialized RX10, .code yX10_letter cX10_letter 5 (some .int), .fieldLink RX10 16 "MixedWordsModel" "a" "I"] ++ wsX100)
noncomputable def wsX10_off : List Cond := .code yX10_off cX10_off 2 (some .int) :: ([.methodLink RX10 159 yX10_isWord, .instanceMethod yX10_isWord, .selects RX10 yX10_isWord yX10_isWord, .initialized RX10, .code yX10_isWord cX10_isWord 2 (some .boolean), .methodLink RX10 153 yX10_words, .instanceMethod yX10_words, .selects RX10 yX10_words yX10_words, .code yX10_words cX10_words 3 (some .int), .fieldLink RX10 13 "MixedWordsModel" "columns" "I", .fieldLink RX10 16 "MixedWordsModel" "a" "I", .methodLink RX10 77 yX10_in, .static yX10_in, .code yX10_in cX10_in 6 (some .boolean), .methodLink RX10 162 yX10_offOf, .instanceMethod yX10_offOf, .selects RX10 yX10_offOf yX10_offOf, .code yX10_offOf cX10_offOf 6 (some .int), .fieldLink RX10 7 "MixedWordsModel" "rows" "I", .fieldLink RX10 19 "MixedWordsModel" "told" "[I", .methodLink RX10 156 yX10_letter, .instanceMethod yX10_letter, .selects RX10 yX10_letter yX10_letter, .code yX10_letter cX10_letter 5 (some .int)] ++ wsX100)
noncomputable def wsX10_offAll : List Cond := .code yX10_offAll cX10_offAll 2 none :: ([.fieldLink RX10 38 "MixedWordsModel" "offs" "[I", .methodLink RX10 153 yX10_words, .instanceMethod yX10_words, .selects RX10 yX10_words yX10_words, .initialized RX10, .code yX10_words cX10_words 3 (some .int), .fieldLink RX10 13 "MixedWordsModel" "columns" "I", .fieldLink RX10 16 "MixedWordsModel" "a" "I", .methodLink RX10 162 yX10_offOf, .instanceMethod yX10_offOf, .selects RX10 yX10_offOf yX10_offOf, .code yX10_offOf cX10_offOf 6 (some .int), .fieldLink RX10 7 "MixedWordsModel" "rows" "I", .fieldLink RX10 19 "MixedWordsModel" "told" "[I", .methodLink RX10 156 yX10_letter, .instanceMethod yX10_letter, .selects RX10 yX10_letter yX10_letter, .code yX10_letter cX10_letter 5 (some .int)] ++ wsX100)
noncomputable def wsX10_nearest_r1 : List Cond := [Cond.fieldLink RX10 38 "MixedWordsModel" "offs" "[I", Cond.methodLink RX10 159 yX10_isWord, Cond.instanceMethod yX10_isWord, Cond.selects RX10 yX10_isWord yX10_isWord, Cond.initialized RX10, Cond.code yX10_isWord cX10_isWord 2 (some .boolean), Cond.methodLink RX10 153 yX10_words, Cond.instanceMethod yX10_words, Cond.selects RX10 yX10_words yX10_words, Cond.code yX10_words cX10_words 3 (some .int), Cond.fieldLink RX10 13 "MixedWordsModel" "columns" "I", Cond.fieldLink RX10 16 "MixedWordsModel" "a" "I", Cond.methodLink RX10 77 yX10_in, Cond.static yX10_in, Cond.code yX10_in cX10_in 6 (some .boolean), Cond.methodLink RX10 165 yX10_offAll, Cond.instanceMethod yX10_offAll, Cond.selects RX10 yX10_offAll yX10_offAll, Cond.code yX10_offAll cX10_offAll 2 none, Cond.methodLink RX10 162 yX10_offOf, Cond.instanceMethod yX10_offOf, Cond.selects RX10 yX10_offOf yX10_offOf, Cond.code yX10_offOf cX10_offOf 6 (some .int), Cond.fieldLink RX10 7 "MixedWordsModel" "rows" "I"]
noncomputable def wsX10_nearest_r2 : List Cond := [Cond.fieldLink RX10 19 "MixedWordsModel" "told" "[I", Cond.methodLink RX10 156 yX10_letter, Cond.instanceMethod yX10_letter, Cond.selects RX10 yX10_letter yX10_letter, Cond.code yX10_letter cX10_letter 5 (some .int)]
noncomputable def wsX10_nearest : List Cond := .code yX10_nearest cX10_nearest 6 (some .int) :: ((wsX10_nearest_r1 ++ wsX10_nearest_r2) ++ wsX100)
noncomputable def wsX10_bit : List Cond := .code yX10_bit cX10_bit 3 (some .int) :: ([])
noncomputable def wsX10_soft_r1 : List Cond := [Cond.fieldLink RX10 16 "MixedWordsModel" "a" "I", Cond.constant RX10 168 (-100000001), Cond.fieldLink RX10 38 "MixedWordsModel" "offs" "[I", Cond.methodLink RX10 90 yX10_isColumn, Cond.instanceMethod yX10_isColumn, Cond.selects RX10 yX10_isColumn yX10_isColumn, Cond.initialized RX10, Cond.code yX10_isColumn cX10_isColumn 2 (some .boolean), Cond.fieldLink RX10 13 "MixedWordsModel" "columns" "I", Cond.methodLink RX10 77 yX10_in, Cond.static yX10_in, Cond.code yX10_in cX10_in 6 (some .boolean), Cond.methodLink RX10 165 yX10_offAll, Cond.instanceMethod yX10_offAll, Cond.selects RX10 yX10_offAll yX10_offAll, Cond.code yX10_offAll cX10_offAll 2 none, Cond.methodLink RX10 153 yX10_words, Cond.instanceMethod yX10_words, Cond.selects RX10 yX10_words yX10_words, Cond.code yX10_words cX10_words 3 (some .int), Cond.methodLink RX10 162 yX10_offOf, Cond.instanceMethod yX10_offOf, Cond.selects RX10 yX10_offOf yX10_offOf, Cond.code yX10_offOf cX10_offOf 6 (some .int)]
noncomputable def wsX10_soft_r2 : List Cond := [Cond.fieldLink RX10 7 "MixedWordsModel" "rows" "I", Cond.fieldLink RX10 19 "MixedWordsModel" "told" "[I", Cond.methodLink RX10 156 yX10_letter, Cond.instanceMethod yX10_letter, Cond.selects RX10 yX10_letter yX10_letter, Cond.code yX10_letter cX10_letter 5 (some .int), Cond.methodLink RX10 169 yX10_bit, Cond.instanceMethod yX10_bit, Cond.selects RX10 yX10_bit yX10_bit, Cond.code yX10_bit cX10_bit 3 (some .int)]
noncomputable def wsX10_soft : List Cond := .code yX10_soft cX10_soft 6 (some .int) :: ((wsX10_soft_r1 ++ wsX10_soft_r2) ++ wsX100)
noncomputable def wsX10_lay : List Cond := .code yX10_lay cX10_lay 3 none :: ([.fieldLink RX10 41 "MixedWordsModel" "cols" "[I", .fieldLink RX10 13 "MixedWordsModel" "columns" "I", .fieldLink RX10 7 "MixedWordsModel" "rows" "I", .fieldLink RX10 19 "MixedWordsModel" "told" "[I", .fieldLink RX10 44 "MixedWordsModel" "trans" "[I"] ++ wsX100)
noncomputable def wsX10_dot : List Cond := .code yX10_dot cX10_dot 5 (some .int) :: ([.fieldLink RX10 41 "MixedWordsModel" "cols" "[I"] ++ wsX100)
noncomputable def wsX10_gram : List Cond := .code yX10_gram cX10_gram 3 (some .int) :: ([.methodLink RX10 90 yX10_isColumn, .instanceMethod yX10_isColumn, .selects RX10 yX10_isColumn yX10_isColumn, .initialized RX10, .code yX10_isColumn cX10_isColumn 2 (some .boolean), .fieldLink RX10 13 "MixedWordsModel" "columns" "I", .methodLink RX10 77 yX10_in, .static yX10_in, .code yX10_in cX10_in 6 (some .boolean), .methodLink RX10 172 yX10_lay, .instanceMethod yX10_lay, .selects RX10 yX10_lay yX10_lay, .code yX10_lay cX10_lay 3 none, .fieldLink RX10 41 "MixedWordsModel" "cols" "[I", .fieldLink RX10 7 "MixedWordsModel" "rows" "I", .fieldLink RX10 19 "MixedWordsModel" "told" "[I", .fieldLink RX10 44 "MixedWordsModel" "trans" "[I", .methodLink RX10 175 yX10_dot, .instanceMethod yX10_dot, .selects RX10 yX10_dot yX10_dot, .code yX10_dot cX10_dot 5 (some .int)] ++ wsX100)
noncomputable def wsX10_determinant : List Cond := .code yX10_determinant cX10_determinant 11 (some .long) :: ([.fieldLink RX10 47 "MixedWordsModel" "square" "[J"] ++ wsX100)
noncomputable def wsX10_worthOf : List Cond := .code yX10_worthOf cX10_worthOf 6 (some .long) :: ([.fieldLink RX10 13 "MixedWordsModel" "columns" "I", .fieldLink RX10 47 "MixedWordsModel" "square" "[J", .methodLink RX10 175 yX10_dot, .instanceMethod yX10_dot, .selects RX10 yX10_dot yX10_dot, .initialized RX10, .code yX10_dot cX10_dot 5 (some .int), .fieldLink RX10 41 "MixedWordsModel" "cols" "[I", .methodLink RX10 178 yX10_determinant, .instanceMethod yX10_determinant, .selects RX10 yX10_determinant yX10_determinant, .code yX10_determinant cX10_determinant 11 (some .long)] ++ wsX100)
noncomputable def wsX10_whole : List Cond := .code yX10_whole cX10_whole 1 (some .int) :: ([.fieldLink RX10 13 "MixedWordsModel" "columns" "I"] ++ wsX100)
noncomputable def wsX10_worth_r1 : List Cond := [Cond.constantLong RX10 185 (-1), Cond.methodLink RX10 182 yX10_whole, Cond.instanceMethod yX10_whole, Cond.selects RX10 yX10_whole yX10_whole, Cond.initialized RX10, Cond.code yX10_whole cX10_whole 1 (some .int), Cond.fieldLink RX10 13 "MixedWordsModel" "columns" "I", Cond.methodLink RX10 77 yX10_in, Cond.static yX10_in, Cond.code yX10_in cX10_in 6 (some .boolean), Cond.methodLink RX10 172 yX10_lay, Cond.instanceMethod yX10_lay, Cond.selects RX10 yX10_lay yX10_lay, Cond.code yX10_lay cX10_lay 3 none, Cond.fieldLink RX10 41 "MixedWordsModel" "cols" "[I", Cond.fieldLink RX10 7 "MixedWordsModel" "rows" "I", Cond.fieldLink RX10 19 "MixedWordsModel" "told" "[I", Cond.fieldLink RX10 44 "MixedWordsModel" "trans" "[I", Cond.methodLink RX10 187 yX10_worthOf, Cond.instanceMethod yX10_worthOf, Cond.selects RX10 yX10_worthOf yX10_worthOf, Cond.code yX10_worthOf cX10_worthOf 6 (some .long), Cond.fieldLink RX10 47 "MixedWordsModel" "square" "[J", Cond.methodLink RX10 175 yX10_dot]
noncomputable def wsX10_worth_r2 : List Cond := [Cond.instanceMethod yX10_dot, Cond.selects RX10 yX10_dot yX10_dot, Cond.code yX10_dot cX10_dot 5 (some .int), Cond.methodLink RX10 178 yX10_determinant, Cond.instanceMethod yX10_determinant, Cond.selects RX10 yX10_determinant yX10_determinant, Cond.code yX10_determinant cX10_determinant 11 (some .long)]
noncomputable def wsX10_worth : List Cond := .code yX10_worth cX10_worth 2 (some .long) :: ((wsX10_worth_r1 ++ wsX10_worth_r2) ++ wsX100)
noncomputable def wsX10_fractionOf : List Cond := .code yX10_fractionOf cX10_fractionOf 5 none :: ([.fieldLink RX10 190 "MixedWordsModel" "below" "J", .fieldLink RX10 13 "MixedWordsModel" "columns" "I", .fieldLink RX10 41 "MixedWordsModel" "cols" "[I", .fieldLink RX10 51 "MixedWordsModel" "met" "[I", .fieldLink RX10 47 "MixedWordsModel" "square" "[J", .fieldLink RX10 194 "MixedWordsModel" "above" "J", .methodLink RX10 182 yX10_whole, .instanceMethod yX10_whole, .selects RX10 yX10_whole yX10_whole, .initialized RX10, .code yX10_whole cX10_whole 1 (some .int), .methodLink RX10 187 yX10_worthOf, .instanceMethod yX10_worthOf, .selects RX10 yX10_worthOf yX10_worthOf, .code yX10_worthOf cX10_worthOf 6 (some .long), .methodLink RX10 175 yX10_dot, .instanceMethod yX10_dot, .selects RX10 yX10_dot yX10_dot, .code yX10_dot cX10_dot 5 (some .int), .methodLink RX10 178 yX10_determinant, .instanceMethod yX10_determinant, .selects RX10 yX10_determinant yX10_determinant, .code yX10_determinant cX10_determinant 11 (some .long)] ++ wsX100)
noncomputable def wsX10_meetHeard : List Cond := .code yX10_meetHeard cX10_meetHeard 2 none :: ([.fieldLink RX10 51 "MixedWordsModel" "met" "[I", .fieldLink RX10 7 "MixedWordsModel" "rows" "I", .fieldLink RX10 19 "MixedWordsModel" "told" "[I"] ++ wsX100)
noncomputable def wsX10_nearestLetter : List Cond := .code yX10_nearestLetter cX10_nearestLetter 11 (some .int) :: ([.fieldLink RX10 16 "MixedWordsModel" "a" "I"] ++ wsX100)
noncomputable def wsX10_undone_r1 : List Cond := [Cond.fieldLink RX10 13 "MixedWordsModel" "columns" "I", Cond.fieldLink RX10 54 "MixedWordsModel" "letters" "[I", Cond.fieldLink RX10 194 "MixedWordsModel" "above" "J", Cond.fieldLink RX10 190 "MixedWordsModel" "below" "J", Cond.methodLink RX10 172 yX10_lay, Cond.instanceMethod yX10_lay, Cond.selects RX10 yX10_lay yX10_lay, Cond.initialized RX10, Cond.code yX10_lay cX10_lay 3 none, Cond.fieldLink RX10 41 "MixedWordsModel" "cols" "[I", Cond.fieldLink RX10 7 "MixedWordsModel" "rows" "I", Cond.fieldLink RX10 19 "MixedWordsModel" "told" "[I", Cond.fieldLink RX10 44 "MixedWordsModel" "trans" "[I", Cond.methodLink RX10 182 yX10_whole, Cond.instanceMethod yX10_whole, Cond.selects RX10 yX10_whole yX10_whole, Cond.code yX10_whole cX10_whole 1 (some .int), Cond.methodLink RX10 187 yX10_worthOf, Cond.instanceMethod yX10_worthOf, Cond.selects RX10 yX10_worthOf yX10_worthOf, Cond.code yX10_worthOf cX10_worthOf 6 (some .long), Cond.fieldLink RX10 47 "MixedWordsModel" "square" "[J", Cond.methodLink RX10 175 yX10_dot, Cond.instanceMethod yX10_dot]
noncomputable def wsX10_undone_r2 : List Cond := [Cond.selects RX10 yX10_dot yX10_dot, Cond.code yX10_dot cX10_dot 5 (some .int), Cond.methodLink RX10 178 yX10_determinant, Cond.instanceMethod yX10_determinant, Cond.selects RX10 yX10_determinant yX10_determinant, Cond.code yX10_determinant cX10_determinant 11 (some .long), Cond.methodLink RX10 197 yX10_meetHeard, Cond.instanceMethod yX10_meetHeard, Cond.selects RX10 yX10_meetHeard yX10_meetHeard, Cond.code yX10_meetHeard cX10_meetHeard 2 none, Cond.fieldLink RX10 51 "MixedWordsModel" "met" "[I", Cond.methodLink RX10 200 yX10_fractionOf, Cond.instanceMethod yX10_fractionOf, Cond.selects RX10 yX10_fractionOf yX10_fractionOf, Cond.code yX10_fractionOf cX10_fractionOf 5 none, Cond.methodLink RX10 203 yX10_nearestLetter, Cond.instanceMethod yX10_nearestLetter, Cond.selects RX10 yX10_nearestLetter yX10_nearestLetter, Cond.code yX10_nearestLetter cX10_nearestLetter 11 (some .int), Cond.fieldLink RX10 16 "MixedWordsModel" "a" "I", Cond.methodLink RX10 207 yX10_numberOf, Cond.instanceMethod yX10_numberOf, Cond.selects RX10 yX10_numberOf yX10_numberOf, Cond.code yX10_numberOf cX10_numberOf 4 (some .int)]
noncomputable def wsX10_undone : List Cond := .code yX10_undone cX10_undone 2 (some .int) :: ((wsX10_undone_r1 ++ wsX10_undone_r2) ++ wsX100)
noncomputable def wsX10_common : List Cond := .code yX10_common cX10_common 10 (some .long) :: ([])
noncomputable def wsX10_fraction_r1 : List Cond := [Cond.constantLong RX10 211 (-1000000000000001), Cond.constantLong RX10 213 (-1000000000000002), Cond.fieldLink RX10 194 "MixedWordsModel" "above" "J", Cond.fieldLink RX10 190 "MixedWordsModel" "below" "J", Cond.methodLink RX10 90 yX10_isColumn, Cond.instanceMethod yX10_isColumn, Cond.selects RX10 yX10_isColumn yX10_isColumn, Cond.initialized RX10, Cond.code yX10_isColumn cX10_isColumn 2 (some .boolean), Cond.fieldLink RX10 13 "MixedWordsModel" "columns" "I", Cond.methodLink RX10 77 yX10_in, Cond.static yX10_in, Cond.code yX10_in cX10_in 6 (some .boolean), Cond.methodLink RX10 172 yX10_lay, Cond.instanceMethod yX10_lay, Cond.selects RX10 yX10_lay yX10_lay, Cond.code yX10_lay cX10_lay 3 none, Cond.fieldLink RX10 41 "MixedWordsModel" "cols" "[I", Cond.fieldLink RX10 7 "MixedWordsModel" "rows" "I", Cond.fieldLink RX10 19 "MixedWordsModel" "told" "[I", Cond.fieldLink RX10 44 "MixedWordsModel" "trans" "[I", Cond.methodLink RX10 182 yX10_whole, Cond.instanceMethod yX10_whole, Cond.selects RX10 yX10_whole yX10_whole]
noncomputable def wsX10_fraction_r2 : List Cond := [Cond.code yX10_whole cX10_whole 1 (some .int), Cond.methodLink RX10 187 yX10_worthOf, Cond.instanceMethod yX10_worthOf, Cond.selects RX10 yX10_worthOf yX10_worthOf, Cond.code yX10_worthOf cX10_worthOf 6 (some .long), Cond.fieldLink RX10 47 "MixedWordsModel" "square" "[J", Cond.methodLink RX10 175 yX10_dot, Cond.instanceMethod yX10_dot, Cond.selects RX10 yX10_dot yX10_dot, Cond.code yX10_dot cX10_dot 5 (some .int), Cond.methodLink RX10 178 yX10_determinant, Cond.instanceMethod yX10_determinant, Cond.selects RX10 yX10_determinant yX10_determinant, Cond.code yX10_determinant cX10_determinant 11 (some .long), Cond.methodLink RX10 197 yX10_meetHeard, Cond.instanceMethod yX10_meetHeard, Cond.selects RX10 yX10_meetHeard yX10_meetHeard, Cond.code yX10_meetHeard cX10_meetHeard 2 none, Cond.fieldLink RX10 51 "MixedWordsModel" "met" "[I", Cond.methodLink RX10 200 yX10_fractionOf, Cond.instanceMethod yX10_fractionOf, Cond.selects RX10 yX10_fractionOf yX10_fractionOf, Cond.code yX10_fractionOf cX10_fractionOf 5 none, Cond.methodLink RX10 215 yX10_common]
noncomputable def wsX10_fraction_r3 : List Cond := [Cond.static yX10_common, Cond.code yX10_common cX10_common 10 (some .long)]
noncomputable def wsX10_fraction : List Cond := .code yX10_fraction cX10_fraction 5 (some .long) :: ((wsX10_fraction_r1 ++ (wsX10_fraction_r2 ++ wsX10_fraction_r3)) ++ wsX100)
noncomputable def wsX10_nextTaken : List Cond := .code yX10_nextTaken cX10_nextTaken 5 (some .int) :: ([.fieldLink RX10 13 "MixedWordsModel" "columns" "I", .methodLink RX10 175 yX10_dot, .instanceMethod yX10_dot, .selects RX10 yX10_dot yX10_dot, .initialized RX10, .code yX10_dot cX10_dot 5 (some .int), .fieldLink RX10 41 "MixedWordsModel" "cols" "[I"] ++ wsX100)
noncomputable def wsX10_taken_r1 : List Cond := [Cond.fieldLink RX10 13 "MixedWordsModel" "columns" "I", Cond.fieldLink RX10 41 "MixedWordsModel" "cols" "[I", Cond.fieldLink RX10 51 "MixedWordsModel" "met" "[I", Cond.fieldLink RX10 54 "MixedWordsModel" "letters" "[I", Cond.methodLink RX10 172 yX10_lay, Cond.instanceMethod yX10_lay, Cond.selects RX10 yX10_lay yX10_lay, Cond.initialized RX10, Cond.code yX10_lay cX10_lay 3 none, Cond.fieldLink RX10 7 "MixedWordsModel" "rows" "I", Cond.fieldLink RX10 19 "MixedWordsModel" "told" "[I", Cond.fieldLink RX10 44 "MixedWordsModel" "trans" "[I", Cond.methodLink RX10 197 yX10_meetHeard, Cond.instanceMethod yX10_meetHeard, Cond.selects RX10 yX10_meetHeard yX10_meetHeard, Cond.code yX10_meetHeard cX10_meetHeard 2 none, Cond.methodLink RX10 219 yX10_nextTaken, Cond.instanceMethod yX10_nextTaken, Cond.selects RX10 yX10_nextTaken yX10_nextTaken, Cond.code yX10_nextTaken cX10_nextTaken 5 (some .int), Cond.methodLink RX10 175 yX10_dot, Cond.instanceMethod yX10_dot, Cond.selects RX10 yX10_dot yX10_dot, Cond.code yX10_dot cX10_dot 5 (some .int)]
noncomputable def wsX10_taken_r2 : List Cond := [Cond.methodLink RX10 203 yX10_nearestLetter, Cond.instanceMethod yX10_nearestLetter, Cond.selects RX10 yX10_nearestLetter yX10_nearestLetter, Cond.code yX10_nearestLetter cX10_nearestLetter 11 (some .int), Cond.fieldLink RX10 16 "MixedWordsModel" "a" "I", Cond.methodLink RX10 207 yX10_numberOf, Cond.instanceMethod yX10_numberOf, Cond.selects RX10 yX10_numberOf yX10_numberOf, Cond.code yX10_numberOf cX10_numberOf 4 (some .int)]
noncomputable def wsX10_taken : List Cond := .code yX10_taken cX10_taken 7 (some .int) :: ((wsX10_taken_r1 ++ wsX10_taken_r2) ++ wsX100)
noncomputable def wsX10_order_r1 : List Cond := [Cond.methodLink RX10 90 yX10_isColumn, Cond.instanceMethod yX10_isColumn, Cond.selects RX10 yX10_isColumn yX10_isColumn, Cond.initialized RX10, Cond.code yX10_isColumn cX10_isColumn 2 (some .boolean), Cond.fieldLink RX10 13 "MixedWordsModel" "columns" "I", Cond.methodLink RX10 77 yX10_in, Cond.static yX10_in, Cond.code yX10_in cX10_in 6 (some .boolean), Cond.methodLink RX10 172 yX10_lay, Cond.instanceMethod yX10_lay, Cond.selects RX10 yX10_lay yX10_lay, Cond.code yX10_lay cX10_lay 3 none, Cond.fieldLink RX10 41 "MixedWordsModel" "cols" "[I", Cond.fieldLink RX10 7 "MixedWordsModel" "rows" "I", Cond.fieldLink RX10 19 "MixedWordsModel" "told" "[I", Cond.fieldLink RX10 44 "MixedWordsModel" "trans" "[I", Cond.methodLink RX10 219 yX10_nextTaken, Cond.instanceMethod yX10_nextTaken, Cond.selects RX10 yX10_nextTaken yX10_nextTaken, Cond.code yX10_nextTaken cX10_nextTaken 5 (some .int), Cond.methodLink RX10 175 yX10_dot, Cond.instanceMethod yX10_dot, Cond.selects RX10 yX10_dot yX10_dot]
noncomputable def wsX10_order_r2 : List Cond := [Cond.code yX10_dot cX10_dot 5 (some .int)]
noncomputable def wsX10_order : List Cond := .code yX10_order cX10_order 5 (some .int) :: ((wsX10_order_r1 ++ wsX10_order_r2) ++ wsX100)
noncomputable def wsX10_nearestWhole : List Cond := .code yX10_nearestWhole cX10_nearestWhole 4 (some .int) :: ([])
noncomputable def wsX10_steps : List Cond := .code yX10_steps cX10_steps 6 (some .boolean) :: ([.fieldLink RX10 13 "MixedWordsModel" "columns" "I", .fieldLink RX10 41 "MixedWordsModel" "cols" "[I", .fieldLink RX10 44 "MixedWordsModel" "trans" "[I", .methodLink RX10 175 yX10_dot, .instanceMethod yX10_dot, .selects RX10 yX10_dot yX10_dot, .initialized RX10, .code yX10_dot cX10_dot 5 (some .int), .methodLink RX10 222 yX10_nearestWhole, .static yX10_nearestWhole, .code yX10_nearestWhole cX10_nearestWhole 4 (some .int)] ++ wsX100)
noncomputable def wsX10_lead : List Cond := .code yX10_lead cX10_lead 2 (some .int) :: ([.methodLink RX10 172 yX10_lay, .instanceMethod yX10_lay, .selects RX10 yX10_lay yX10_lay, .initialized RX10, .code yX10_lay cX10_lay 3 none, .fieldLink RX10 41 "MixedWordsModel" "cols" "[I", .fieldLink RX10 13 "MixedWordsModel" "columns" "I", .fieldLink RX10 7 "MixedWordsModel" "rows" "I", .fieldLink RX10 19 "MixedWordsModel" "told" "[I", .fieldLink RX10 44 "MixedWordsModel" "trans" "[I", .methodLink RX10 225 yX10_steps, .instanceMethod yX10_steps, .selects RX10 yX10_steps yX10_steps, .code yX10_steps cX10_steps 6 (some .boolean), .methodLink RX10 175 yX10_dot, .instanceMethod yX10_dot, .selects RX10 yX10_dot yX10_dot, .code yX10_dot cX10_dot 5 (some .int), .methodLink RX10 222 yX10_nearestWhole, .static yX10_nearestWhole, .code yX10_nearestWhole cX10_nearestWhole 4 (some .int)] ++ wsX100)
noncomputable def wsX10_led_r1 : List Cond := [Cond.methodLink RX10 229 yX10_lead, Cond.instanceMethod yX10_lead, Cond.selects RX10 yX10_lead yX10_lead, Cond.initialized RX10, Cond.code yX10_lead cX10_lead 2 (some .int), Cond.methodLink RX10 172 yX10_lay, Cond.instanceMethod yX10_lay, Cond.selects RX10 yX10_lay yX10_lay, Cond.code yX10_lay cX10_lay 3 none, Cond.fieldLink RX10 41 "MixedWordsModel" "cols" "[I", Cond.fieldLink RX10 13 "MixedWordsModel" "columns" "I", Cond.fieldLink RX10 7 "MixedWordsModel" "rows" "I", Cond.fieldLink RX10 19 "MixedWordsModel" "told" "[I", Cond.fieldLink RX10 44 "MixedWordsModel" "trans" "[I", Cond.methodLink RX10 225 yX10_steps, Cond.instanceMethod yX10_steps, Cond.selects RX10 yX10_steps yX10_steps, Cond.code yX10_steps cX10_steps 6 (some .boolean), Cond.methodLink RX10 175 yX10_dot, Cond.instanceMethod yX10_dot, Cond.selects RX10 yX10_dot yX10_dot, Cond.code yX10_dot cX10_dot 5 (some .int), Cond.methodLink RX10 222 yX10_nearestWhole, Cond.static yX10_nearestWhole]
noncomputable def wsX10_led_r2 : List Cond := [Cond.code yX10_nearestWhole cX10_nearestWhole 4 (some .int)]
noncomputable def wsX10_led : List Cond := .code yX10_led cX10_led 1 (some .int) :: ((wsX10_led_r1 ++ wsX10_led_r2) ++ wsX100)
noncomputable def wsX10_ledAt_r1 : List Cond := [Cond.constant RX10 232 (-1000001), Cond.fieldLink RX10 41 "MixedWordsModel" "cols" "[I", Cond.fieldLink RX10 44 "MixedWordsModel" "trans" "[I", Cond.methodLink RX10 77 yX10_in, Cond.static yX10_in, Cond.initialized RX10, Cond.code yX10_in cX10_in 6 (some .boolean), Cond.methodLink RX10 90 yX10_isColumn, Cond.instanceMethod yX10_isColumn, Cond.selects RX10 yX10_isColumn yX10_isColumn, Cond.code yX10_isColumn cX10_isColumn 2 (some .boolean), Cond.fieldLink RX10 13 "MixedWordsModel" "columns" "I", Cond.methodLink RX10 86 yX10_isRow, Cond.instanceMethod yX10_isRow, Cond.selects RX10 yX10_isRow yX10_isRow, Cond.code yX10_isRow cX10_isRow 2 (some .boolean), Cond.fieldLink RX10 7 "MixedWordsModel" "rows" "I", Cond.methodLink RX10 229 yX10_lead, Cond.instanceMethod yX10_lead, Cond.selects RX10 yX10_lead yX10_lead, Cond.code yX10_lead cX10_lead 2 (some .int), Cond.methodLink RX10 172 yX10_lay, Cond.instanceMethod yX10_lay, Cond.selects RX10 yX10_lay yX10_lay]
noncomputable def wsX10_ledAt_r2 : List Cond := [Cond.code yX10_lay cX10_lay 3 none, Cond.fieldLink RX10 19 "MixedWordsModel" "told" "[I", Cond.methodLink RX10 225 yX10_steps, Cond.instanceMethod yX10_steps, Cond.selects RX10 yX10_steps yX10_steps, Cond.code yX10_steps cX10_steps 6 (some .boolean), Cond.methodLink RX10 175 yX10_dot, Cond.instanceMethod yX10_dot, Cond.selects RX10 yX10_dot yX10_dot, Cond.code yX10_dot cX10_dot 5 (some .int), Cond.methodLink RX10 222 yX10_nearestWhole, Cond.static yX10_nearestWhole, Cond.code yX10_nearestWhole cX10_nearestWhole 4 (some .int)]
noncomputable def wsX10_ledAt : List Cond := .code yX10_ledAt cX10_ledAt 6 (some .int) :: ((wsX10_ledAt_r1 ++ wsX10_ledAt_r2) ++ wsX100)
noncomputable def wsX10_ledWord_r1 : List Cond := [Cond.fieldLink RX10 7 "MixedWordsModel" "rows" "I", Cond.fieldLink RX10 13 "MixedWordsModel" "columns" "I", Cond.fieldLink RX10 51 "MixedWordsModel" "met" "[I", Cond.fieldLink RX10 16 "MixedWordsModel" "a" "I", Cond.fieldLink RX10 19 "MixedWordsModel" "told" "[I", Cond.fieldLink RX10 194 "MixedWordsModel" "above" "J", Cond.fieldLink RX10 190 "MixedWordsModel" "below" "J", Cond.constantLong RX10 233 (2), Cond.fieldLink RX10 57 "MixedWordsModel" "wholes" "[J", Cond.fieldLink RX10 44 "MixedWordsModel" "trans" "[I", Cond.fieldLink RX10 54 "MixedWordsModel" "letters" "[I", Cond.methodLink RX10 229 yX10_lead, Cond.instanceMethod yX10_lead, Cond.selects RX10 yX10_lead yX10_lead, Cond.initialized RX10, Cond.code yX10_lead cX10_lead 2 (some .int), Cond.methodLink RX10 172 yX10_lay, Cond.instanceMethod yX10_lay, Cond.selects RX10 yX10_lay yX10_lay, Cond.code yX10_lay cX10_lay 3 none, Cond.fieldLink RX10 41 "MixedWordsModel" "cols" "[I", Cond.methodLink RX10 225 yX10_steps, Cond.instanceMethod yX10_steps, Cond.selects RX10 yX10_steps yX10_steps]
noncomputable def wsX10_ledWord_r2 : List Cond := [Cond.code yX10_steps cX10_steps 6 (some .boolean), Cond.methodLink RX10 175 yX10_dot, Cond.instanceMethod yX10_dot, Cond.selects RX10 yX10_dot yX10_dot, Cond.code yX10_dot cX10_dot 5 (some .int), Cond.methodLink RX10 222 yX10_nearestWhole, Cond.static yX10_nearestWhole, Cond.code yX10_nearestWhole cX10_nearestWhole 4 (some .int), Cond.methodLink RX10 182 yX10_whole, Cond.instanceMethod yX10_whole, Cond.selects RX10 yX10_whole yX10_whole, Cond.code yX10_whole cX10_whole 1 (some .int), Cond.methodLink RX10 187 yX10_worthOf, Cond.instanceMethod yX10_worthOf, Cond.selects RX10 yX10_worthOf yX10_worthOf, Cond.code yX10_worthOf cX10_worthOf 6 (some .long), Cond.fieldLink RX10 47 "MixedWordsModel" "square" "[J", Cond.methodLink RX10 178 yX10_determinant, Cond.instanceMethod yX10_determinant, Cond.selects RX10 yX10_determinant yX10_determinant, Cond.code yX10_determinant cX10_determinant 11 (some .long), Cond.methodLink RX10 197 yX10_meetHeard, Cond.instanceMethod yX10_meetHeard, Cond.selects RX10 yX10_meetHeard yX10_meetHeard]
noncomputable def wsX10_ledWord_r3 : List Cond := [Cond.code yX10_meetHeard cX10_meetHeard 2 none, Cond.methodLink RX10 200 yX10_fractionOf, Cond.instanceMethod yX10_fractionOf, Cond.selects RX10 yX10_fractionOf yX10_fractionOf, Cond.code yX10_fractionOf cX10_fractionOf 5 none, Cond.methodLink RX10 207 yX10_numberOf, Cond.instanceMethod yX10_numberOf, Cond.selects RX10 yX10_numberOf yX10_numberOf, Cond.code yX10_numberOf cX10_numberOf 4 (some .int)]
noncomputable def wsX10_ledWord : List Cond := .code yX10_ledWord cX10_ledWord 9 (some .int) :: ((wsX10_ledWord_r1 ++ (wsX10_ledWord_r2 ++ wsX10_ledWord_r3)) ++ wsX100)
noncomputable def wsX10_isAhead : List Cond := .code yX10_isAhead cX10_isAhead 4 (some .boolean) :: ([.fieldLink RX10 13 "MixedWordsModel" "columns" "I"] ++ wsX100)
noncomputable def wsX10_chosen_r1 : List Cond := [Cond.fieldLink RX10 13 "MixedWordsModel" "columns" "I", Cond.constantLong RX10 185 (-1), Cond.methodLink RX10 77 yX10_in, Cond.static yX10_in, Cond.initialized RX10, Cond.code yX10_in cX10_in 6 (some .boolean), Cond.methodLink RX10 172 yX10_lay, Cond.instanceMethod yX10_lay, Cond.selects RX10 yX10_lay yX10_lay, Cond.code yX10_lay cX10_lay 3 none, Cond.fieldLink RX10 41 "MixedWordsModel" "cols" "[I", Cond.fieldLink RX10 7 "MixedWordsModel" "rows" "I", Cond.fieldLink RX10 19 "MixedWordsModel" "told" "[I", Cond.fieldLink RX10 44 "MixedWordsModel" "trans" "[I", Cond.methodLink RX10 182 yX10_whole, Cond.instanceMethod yX10_whole, Cond.selects RX10 yX10_whole yX10_whole, Cond.code yX10_whole cX10_whole 1 (some .int), Cond.methodLink RX10 187 yX10_worthOf, Cond.instanceMethod yX10_worthOf, Cond.selects RX10 yX10_worthOf yX10_worthOf, Cond.code yX10_worthOf cX10_worthOf 6 (some .long), Cond.fieldLink RX10 47 "MixedWordsModel" "square" "[J", Cond.methodLink RX10 175 yX10_dot]
noncomputable def wsX10_chosen_r2 : List Cond := [Cond.instanceMethod yX10_dot, Cond.selects RX10 yX10_dot yX10_dot, Cond.code yX10_dot cX10_dot 5 (some .int), Cond.methodLink RX10 178 yX10_determinant, Cond.instanceMethod yX10_determinant, Cond.selects RX10 yX10_determinant yX10_determinant, Cond.code yX10_determinant cX10_determinant 11 (some .long), Cond.methodLink RX10 235 yX10_isAhead, Cond.instanceMethod yX10_isAhead, Cond.selects RX10 yX10_isAhead yX10_isAhead, Cond.code yX10_isAhead cX10_isAhead 4 (some .boolean)]
noncomputable def wsX10_chosen : List Cond := .code yX10_chosen cX10_chosen 9 (some .int) :: ((wsX10_chosen_r1 ++ wsX10_chosen_r2) ++ wsX100)
noncomputable def wsX10_isSheet : List Cond := .code yX10_isSheet cX10_isSheet 1 (some .boolean) :: ([.constantLong RX10 239 (3), .methodLink RX10 77 yX10_in, .static yX10_in, .initialized RX10, .code yX10_in cX10_in 6 (some .boolean)])
noncomputable def wsX10_isLane : List Cond := .code yX10_isLane cX10_isLane 1 (some .boolean) :: ([.constantLong RX10 233 (2), .methodLink RX10 77 yX10_in, .static yX10_in, .initialized RX10, .code yX10_in cX10_in 6 (some .boolean)])
noncomputable def wsX10_sheet : List Cond := .code yX10_sheet cX10_sheet 5 (some .int) :: ([.fieldLink RX10 60 "MixedWordsModel" "lanes" "[I", .fieldLink RX10 63 "MixedWordsModel" "sizes" "[I", .fieldLink RX10 66 "MixedWordsModel" "items" "[I", .methodLink RX10 241 yX10_isSheet, .static yX10_isSheet, .initialized RX10, .code yX10_isSheet cX10_isSheet 1 (some .boolean), .constantLong RX10 239 (3), .methodLink RX10 77 yX10_in, .static yX10_in, .code yX10_in cX10_in 6 (some .boolean), .methodLink RX10 244 yX10_isLane, .static yX10_isLane, .code yX10_isLane cX10_isLane 1 (some .boolean), .constantLong RX10 233 (2)] ++ wsX100)
noncomputable def wsX10_drop : List Cond := .code yX10_drop cX10_drop 2 (some .int) :: ([.fieldLink RX10 60 "MixedWordsModel" "lanes" "[I", .fieldLink RX10 63 "MixedWordsModel" "sizes" "[I", .methodLink RX10 241 yX10_isSheet, .static yX10_isSheet, .initialized RX10, .code yX10_isSheet cX10_isSheet 1 (some .boolean), .constantLong RX10 239 (3), .methodLink RX10 77 yX10_in, .static yX10_in, .code yX10_in cX10_in 6 (some .boolean)] ++ wsX100)
noncomputable def wsX10_item : List Cond := .code yX10_item cX10_item 5 (some .int) :: ([.fieldLink RX10 60 "MixedWordsModel" "lanes" "[I", .fieldLink RX10 63 "MixedWordsModel" "sizes" "[I", .fieldLink RX10 66 "MixedWordsModel" "items" "[I", .methodLink RX10 241 yX10_isSheet, .static yX10_isSheet, .initialized RX10, .code yX10_isSheet cX10_isSheet 1 (some .boolean), .constantLong RX10 239 (3), .methodLink RX10 77 yX10_in, .static yX10_in, .code yX10_in cX10_in 6 (some .boolean), .methodLink RX10 244 yX10_isLane, .static yX10_isLane, .code yX10_isLane cX10_isLane 1 (some .boolean), .constantLong RX10 233 (2)] ++ wsX100)
noncomputable def wsX10_rows_r1 : List Cond := [Cond.fieldLink RX10 60 "MixedWordsModel" "lanes" "[I", Cond.fieldLink RX10 13 "MixedWordsModel" "columns" "I", Cond.fieldLink RX10 7 "MixedWordsModel" "rows" "I", Cond.fieldLink RX10 63 "MixedWordsModel" "sizes" "[I", Cond.fieldLink RX10 66 "MixedWordsModel" "items" "[I", Cond.fieldLink RX10 19 "MixedWordsModel" "told" "[I", Cond.methodLink RX10 241 yX10_isSheet, Cond.static yX10_isSheet, Cond.initialized RX10, Cond.code yX10_isSheet cX10_isSheet 1 (some .boolean), Cond.constantLong RX10 239 (3), Cond.methodLink RX10 77 yX10_in, Cond.static yX10_in, Cond.code yX10_in cX10_in 6 (some .boolean), Cond.methodLink RX10 244 yX10_isLane, Cond.static yX10_isLane, Cond.code yX10_isLane cX10_isLane 1 (some .boolean), Cond.constantLong RX10 233 (2), Cond.methodLink RX10 97 yX10_place, Cond.instanceMethod yX10_place, Cond.selects RX10 yX10_place yX10_place, Cond.code yX10_place cX10_place 3 (some .int), Cond.methodLink RX10 83 yX10_forget, Cond.instanceMethod yX10_forget]
noncomputable def wsX10_rows_r2 : List Cond := [Cond.selects RX10 yX10_forget yX10_forget, Cond.code yX10_forget cX10_forget 1 none, Cond.fieldLink RX10 69 "MixedWordsModel" "done" "I", Cond.fieldLink RX10 72 "MixedWordsModel" "undone" "I"]
noncomputable def wsX10_rows : List Cond := .code yX10_rows cX10_rows 8 (some .int) :: ((wsX10_rows_r1 ++ wsX10_rows_r2) ++ wsX100)
noncomputable def wsJ9_abs_0f7a4 : List Cond := .code yJ9_abs_0f7a4 cJ9_abs_0f7a4 1 (some .int) :: ([])
noncomputable def wsJ9_abs_067f4 : List Cond := .code yJ9_abs_067f4 cJ9_abs_067f4 2 (some .long) :: ([])
noncomputable def wsJ9_max_7cf53 : List Cond := .code yJ9_max_7cf53 cJ9_max_7cf53 2 (some .int) :: ([])
noncomputable def wsJ9_max_f86c9 : List Cond := .code yJ9_max_f86c9 cJ9_max_f86c9 4 (some .long) :: ([])
noncomputable def wsJ9_min_7cf53 : List Cond := .code yJ9_min_7cf53 cJ9_min_7cf53 2 (some .int) :: ([])
noncomputable def wsJ9_min_f86c9 : List Cond := .code yJ9_min_f86c9 cJ9_min_f86c9 4 (some .long) :: ([])
abbrev vwCl : List vw_C := [(RX0, TX0, 8), (RX1, TX1, 6), (RX2, TX2, 5), (RX3, TX3, 6), (RX4, TX4, 6), (RX5, TX5, 3), (RX6, TX6, 4), (RX7, TX7, 2), (RX8, TX8, 6), (RX9, TX9, 9), (RX10, TX10, 28)]
