def an_off (x : Int32) : Int32 := if (0 ≤ x.toInt ∧ x.toInt ≤ 3) then 0 else -1
def an_nearest (x : Int32) : Int32 := if (0 ≤ x.toInt ∧ x.toInt ≤ 3) then x else -1
def an_soft (x y : Int32) : Int32 := if ((0 ≤ x.toInt ∧ x.toInt ≤ 1) ∧ 0 ≤ y.toInt ∧ y.toInt ≤ 0) then 0 else -100000001
def an_worth (x : Int32) : Int64 := if (1 ≤ x.toInt ∧ x.toInt ≤ 3) then 0 else -1
def an_fraction (x y : Int32) : Int64 := if ((0 ≤ x.toInt ∧ x.toInt ≤ 1) ∧ 0 ≤ y.toInt ∧ y.toInt ≤ 1) then -1000000000000002 else -1000000000000001
def an_order (x : Int32) : Int32 := if (0 ≤ x.toInt ∧ x.toInt ≤ 1) then x else -1
def an_chosen (x : Int32) : Int32 := if (1 ≤ x.toInt ∧ x.toInt ≤ 2) then (if x = nI 1 then nI 1 else nI 3) else -1
def an_ledAt (x y z : Int32) : Int32 := if ((0 ≤ x.toInt ∧ x.toInt ≤ 1) ∧ (0 ≤ y.toInt ∧ y.toInt ≤ 1) ∧ 0 ≤ z.toInt ∧ z.toInt ≤ 1) then (if x = nI 1 ∧ y = z then nI 1 else nI 0) else -1000001
def an_drop (x : Int32) : Int32 := if (0 ≤ x.toInt ∧ x.toInt ≤ 3) then -11 else -1
def an_item (x y : Int32) : Int32 := if ((0 ≤ x.toInt ∧ x.toInt ≤ 3) ∧ 0 ≤ y.toInt ∧ y.toInt ≤ 2) then -11 else -1
