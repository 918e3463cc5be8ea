theorem lc_lt {y : Int32} {a b : Int64} (e : y = lg_cmp a b) (q : y < 0) : a.toInt < b.toInt := by rw [e] at q; exact Int64.lt_iff_toInt_lt.mp ((lg_cmp_lt a b).mp q)
theorem lc_nlt {y : Int32} {a b : Int64} (e : y = lg_cmp a b) (q : ¬ y < 0) : b.toInt ≤ a.toInt := by rw [e, lg_cmp_lt, Int64.lt_iff_toInt_lt] at q; omega
theorem lc_gt {y : Int32} {a b : Int64} (e : y = lg_cmp a b) (q : 0 < y) : b.toInt < a.toInt := by rw [e] at q; exact Int64.lt_iff_toInt_lt.mp ((lg_cmp_gt a b).mp q)
theorem lc_ngt {y : Int32} {a b : Int64} (e : y = lg_cmp a b) (q : ¬ 0 < y) : a.toInt ≤ b.toInt := by rw [e, lg_cmp_gt, Int64.lt_iff_toInt_lt] at q; omega
theorem lc_ge {y : Int32} {a b : Int64} (e : y = lg_cmp a b) (q : 0 ≤ y) : b.toInt ≤ a.toInt := by rw [e] at q; exact Int64.le_iff_toInt_le.mp ((lg_cmp_ge a b).mp q)
theorem lc_nge {y : Int32} {a b : Int64} (e : y = lg_cmp a b) (q : ¬ 0 ≤ y) : a.toInt < b.toInt := by rw [e, lg_cmp_ge, Int64.le_iff_toInt_le] at q; omega
theorem lc_le {y : Int32} {a b : Int64} (e : y = lg_cmp a b) (q : y ≤ 0) : a.toInt ≤ b.toInt := by rw [e] at q; exact Int64.le_iff_toInt_le.mp ((lg_cmp_le a b).mp q)
theorem lc_nle {y : Int32} {a b : Int64} (e : y = lg_cmp a b) (q : ¬ y ≤ 0) : b.toInt < a.toInt := by rw [e, lg_cmp_le, Int64.le_iff_toInt_le] at q; omega
theorem lc_eq {y : Int32} {a b : Int64} (e : y = lg_cmp a b) (q : y = 0) : a.toInt = b.toInt := by rw [e] at q; rw [(lg_cmp_eq a b).mp q]
theorem lc_ne {y : Int32} {a b : Int64} (e : y = lg_cmp a b) (q : ¬ y = 0) : a.toInt ≠ b.toInt := by
  rw [e, lg_cmp_eq] at q
  exact fun h => q (Int64.toInt_inj.mp h)
theorem ne_role {C : Nat → Nat} {a b r q : Nat} (h1 : C a = r) (h2 : C b = q) (h : r ≠ q) : a ≠ b := fun e => h (by rw [← h1, ← h2, e])
theorem nm_arr {r k : Nat} {ms : List Nat} (hr : 32 ≤ r) (h : ms.contains (r * 64) = false) : mC r k ∉ ms := by
  unfold mC
  rw [if_neg (by omega)]
  intro q
  have : ms.contains (r * 64) = true := by simpa using q
  rw [h] at this
  cases this
