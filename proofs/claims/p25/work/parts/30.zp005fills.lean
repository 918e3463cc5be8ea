theorem fill_38_l {b : Nat} {v : Int32} {I : hI} {J : hJ} {R : hR} : ∀ (f k : Nat) (x : Int32), x.toInt = k → k ≤ 49 → 49 < f + k → F_J7_fill_38_5 b v f (fillF I b k v) J R x = (fillF I b 49 v, J, R) := by
  intro f
  induction f with
  | zero => intro k x _ h1 h2; omega
  | succ f ih =>
    intro k x hx h1 h2
    rw [F_J7_fill_38_5_s]
    simp only [B_J7_fill_38_5, nm]
    have cN : Int32.toInt 49 = 49 := by decide
    by_cases h : (49 : Int32) ≤ x
    · have h3 := Rg_le h
      have e : k = 49 := by omega
      rw [if_pos h, e]
    · have h3 := Rg_nle h
      rw [if_neg h, clamp_toInt hx, fillF_s]
      exact ih (k + 1) (x + 1) (by rw [add1 (b := 49) (by omega) (by omega), hx]; omega) (by omega) (by omega)
theorem fill_38 {b : Nat} {v : Int32} {I : hI} {J : hJ} {R : hR} : F_J7_fill_38 b v I J R = (fillF I b 49 v, J, R) := by
  have := fill_38_l (b := b) (v := v) (I := I) (J := J) (R := R) (49 + 1) 0 0 (by decide) (by omega) (by omega)
  rw [fillF_0] at this
  exact this
theorem fill_45_l {b : Nat} {v : Int32} {I : hI} {J : hJ} {R : hR} : ∀ (f k : Nat) (x : Int32), x.toInt = k → k ≤ 100 → 100 < f + k → F_J7_fill_45_5 b v f (fillF I b k v) J R x = (fillF I b 100 v, J, R) := by
  intro f
  induction f with
  | zero => intro k x _ h1 h2; omega
  | succ f ih =>
    intro k x hx h1 h2
    rw [F_J7_fill_45_5_s]
    simp only [B_J7_fill_45_5, nm]
    have cN : Int32.toInt 100 = 100 := by decide
    by_cases h : (100 : Int32) ≤ x
    · have h3 := Rg_le h
      have e : k = 100 := by omega
      rw [if_pos h, e]
    · have h3 := Rg_nle h
      rw [if_neg h, clamp_toInt hx, fillF_s]
      exact ih (k + 1) (x + 1) (by rw [add1 (b := 100) (by omega) (by omega), hx]; omega) (by omega) (by omega)
theorem fill_45 {b : Nat} {v : Int32} {I : hI} {J : hJ} {R : hR} : F_J7_fill_45 b v I J R = (fillF I b 100 v, J, R) := by
  have := fill_45_l (b := b) (v := v) (I := I) (J := J) (R := R) (100 + 1) 0 0 (by decide) (by omega) (by omega)
  rw [fillF_0] at this
  exact this
theorem forgetA {w ww : Nat} {I : hI} {J : hJ} {R : hR} (v : R w 2 = some ww) : F_X9_forgetAll w I J R = (fillF I ww 100 (-1), J, R) := by
  simp only [F_X9_forgetAll, nm, nmW, v, Option.getD_some, fill_45]
theorem isS {x : Int32} : F_X10_isSort x = if 0 ≤ x.toInt ∧ x.toInt ≤ 6 then 1 else 0 := by simp only [F_X10_isSort, nm, isW, ite11, cI0, cI6]
theorem WwF {a0 ww : Nat} {I I1 : hI} {J J1 : hJ} {R R1 : hR} (v : R a0 2 = some ww) (hf : F_X9_forgetAll_raw a0 I J R = (I1, J1, R1)) : ∀ j, j < 100 → I1 ww j = -1 := by
  simp only [F_X9_forgetAll_raw, nm, nmW, v, Option.getD_some, fill_45] at hf
  cases hf
  exact fun j hj => fillF_at hj
