def an_gram (x y : Int32) : Int32 := if ((0 ≤ x.toInt ∧ x.toInt ≤ 1) ∧ 0 ≤ y.toInt ∧ y.toInt ≤ 1) then 0 else -10001
def an_table (x y : Int32) : Int32 := if ((1 ≤ x.toInt ∧ x.toInt ≤ 5) ∧ 1 ≤ y.toInt ∧ y.toInt ≤ 4) then nI 1 else -1
def an_sheet (x y z : Int32) : Int32 := if (((0 ≤ x.toInt ∧ x.toInt ≤ 3) ∧ 0 ≤ y.toInt ∧ y.toInt ≤ 2) ∧ z.toInt ≤ 25) then (if z.toInt < 0 then -14 else z) else -1
def tyP (w : Int64) (x r : Int32) : Prop := (((1 ≤ x.toInt ∧ x.toInt ≤ 8) ∧ ∀ t : Nat, t < x.toInt.toNat → okB w t) ∧ r = x) ∨ (¬ ((1 ≤ x.toInt ∧ x.toInt ≤ 8) ∧ ∀ t : Nat, t < x.toInt.toNat → okB w t) ∧ r = -1)
theorem an_item_or (x y : Int32) : an_item x y = -11 ∨ an_item x y = -1 := by
  unfold an_item
  split
  · exact Or.inl rfl
  · exact Or.inr rfl
