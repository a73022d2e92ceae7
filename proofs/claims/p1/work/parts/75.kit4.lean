/-! compares of an unknown number with a known one, as whole numbers -/
theorem splR (x : Int32) (lo hi : Nat) (h : hi < 2147483648) : (∃ i : Nat, lo ≤ i ∧ i ≤ hi ∧ x = nI i) ∨ ¬ ((lo : Int) ≤ x.toInt ∧ x.toInt ≤ (hi : Int)) := by
  by_cases hc : (lo : Int) ≤ x.toInt ∧ x.toInt ≤ (hi : Int)
  · refine Or.inl ⟨x.toInt.toNat, by omega, by omega, ?_⟩
    apply Int32.toInt_inj.mp
    rw [nI_toInt (by omega)]
    omega
  · exact Or.inr hc
theorem zc_teq {v K : Int32} {k : Int} (hK : K.toInt = k) (c : v = K) : v.toInt = k := by
  rw [← hK]
  exact congrArg Int32.toInt c
theorem zc_feq {v K : Int32} {k : Int} (hK : K.toInt = k) (c : ¬ (v = K)) : ¬ v.toInt = k := by
  rw [← hK]
  exact fun h => c (Int32.toInt_inj.mp h)
theorem zc_teqF {v K : Int32} {k : Int} (hK : K.toInt = k) (c : K = v) : v.toInt = k := by
  rw [← hK]
  exact (congrArg Int32.toInt c).symm
theorem zc_feqF {v K : Int32} {k : Int} (hK : K.toInt = k) (c : ¬ (K = v)) : ¬ v.toInt = k := by
  rw [← hK]
  exact fun h => c (Int32.toInt_inj.mp h.symm)
theorem zc_tlt {v K : Int32} {k : Int} (hK : K.toInt = k) (c : v < K) : v.toInt < k := by
  rw [← hK]
  exact Int32.lt_iff_toInt_lt.mp c
theorem zc_flt {v K : Int32} {k : Int} (hK : K.toInt = k) (c : ¬ (v < K)) : k ≤ v.toInt := by
  rw [← hK]
  exact Int.not_lt.mp (fun h => c (Int32.lt_iff_toInt_lt.mpr h))
theorem zc_tltF {v K : Int32} {k : Int} (hK : K.toInt = k) (c : K < v) : k < v.toInt := by
  rw [← hK]
  exact Int32.lt_iff_toInt_lt.mp c
theorem zc_fltF {v K : Int32} {k : Int} (hK : K.toInt = k) (c : ¬ (K < v)) : v.toInt ≤ k := by
  rw [← hK]
  exact Int.not_lt.mp (fun h => c (Int32.lt_iff_toInt_lt.mpr h))
theorem zc_tge {v K : Int32} {k : Int} (hK : K.toInt = k) (c : K ≤ v) : k ≤ v.toInt := by
  rw [← hK]
  exact Int32.le_iff_toInt_le.mp c
theorem zc_fge {v K : Int32} {k : Int} (hK : K.toInt = k) (c : ¬ (K ≤ v)) : v.toInt < k := by
  rw [← hK]
  exact Int.not_le.mp (fun h => c (Int32.le_iff_toInt_le.mpr h))
theorem zc_tgeF {v K : Int32} {k : Int} (hK : K.toInt = k) (c : v ≤ K) : v.toInt ≤ k := by
  rw [← hK]
  exact Int32.le_iff_toInt_le.mp c
theorem zc_fgeF {v K : Int32} {k : Int} (hK : K.toInt = k) (c : ¬ (v ≤ K)) : k < v.toInt := by
  rw [← hK]
  exact Int.not_le.mp (fun h => c (Int32.le_iff_toInt_le.mpr h))
theorem zc_tgt {v K : Int32} {k : Int} (hK : K.toInt = k) (c : K < v) : k < v.toInt := by
  rw [← hK]
  exact Int32.lt_iff_toInt_lt.mp c
theorem zc_fgt {v K : Int32} {k : Int} (hK : K.toInt = k) (c : ¬ (K < v)) : v.toInt ≤ k := by
  rw [← hK]
  exact Int.not_lt.mp (fun h => c (Int32.lt_iff_toInt_lt.mpr h))
theorem zc_tgtF {v K : Int32} {k : Int} (hK : K.toInt = k) (c : v < K) : v.toInt < k := by
  rw [← hK]
  exact Int32.lt_iff_toInt_lt.mp c
theorem zc_fgtF {v K : Int32} {k : Int} (hK : K.toInt = k) (c : ¬ (v < K)) : k ≤ v.toInt := by
  rw [← hK]
  exact Int.not_lt.mp (fun h => c (Int32.lt_iff_toInt_lt.mpr h))
theorem zc_tle {v K : Int32} {k : Int} (hK : K.toInt = k) (c : v ≤ K) : v.toInt ≤ k := by
  rw [← hK]
  exact Int32.le_iff_toInt_le.mp c
theorem zc_fle {v K : Int32} {k : Int} (hK : K.toInt = k) (c : ¬ (v ≤ K)) : k < v.toInt := by
  rw [← hK]
  exact Int.not_le.mp (fun h => c (Int32.le_iff_toInt_le.mpr h))
theorem zc_tleF {v K : Int32} {k : Int} (hK : K.toInt = k) (c : K ≤ v) : k ≤ v.toInt := by
  rw [← hK]
  exact Int32.le_iff_toInt_le.mp c
theorem zc_fleF {v K : Int32} {k : Int} (hK : K.toInt = k) (c : ¬ (K ≤ v)) : v.toInt < k := by
  rw [← hK]
  exact Int.not_le.mp (fun h => c (Int32.le_iff_toInt_le.mpr h))
theorem zc_tne {v K : Int32} {k : Int} (hK : K.toInt = k) (c : ¬ v = K) : ¬ v.toInt = k := by
  rw [← hK]
  exact fun h => c (Int32.toInt_inj.mp h)
theorem zc_fne {v K : Int32} {k : Int} (hK : K.toInt = k) (c : v = K) : v.toInt = k := by
  rw [← hK]
  exact congrArg Int32.toInt c
theorem zc_tneF {v K : Int32} {k : Int} (hK : K.toInt = k) (c : ¬ K = v) : ¬ v.toInt = k := by
  rw [← hK]
  exact fun h => c (Int32.toInt_inj.mp h.symm)
theorem zc_fneF {v K : Int32} {k : Int} (hK : K.toInt = k) (c : K = v) : v.toInt = k := by
  rw [← hK]
  exact (congrArg Int32.toInt c).symm

