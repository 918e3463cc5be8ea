theorem st_field {L : List Nat} {C : Nat → Nat} {x mo : Nat} {I I2 : hI} {J J2 : hJ} {R R2 : hR} (uq : Uq L C) (mx : x ∈ L) (kx : C x = 10) (mm : mo ∈ L) (km : C mo = 11) (oI : OkI L C I) (oR : OkR L C R) (ow0 : Ow L C R) (rel : RX L C x mo (I, J, R)) {x1 : Int32} {x2 : Int32} {ra rb : Int64} (fa : F_X10_field x x1 x2 I J R = ra) (oI1 : OkI L C I) (oR1 : OkR L C R) (fb : F_X11_field mo x1 x2 I J R = (rb, (I2, J2, R2))) (sb : Sm C ms_X11_field (I, J, R) (I2, J2, R2)) (oI2 : OkI L C I2) (oR2 : OkR L C R2) : RX L C x mo (I2, J2, R2) ∧ ra = rb := by
  refine ⟨RX.sm rel oI2 oR2 sb (by decide), ?_⟩
  obtain ⟨rw0, -, -, th, tcl, tfl, la, kc, kh, mc, mf, mh, c, e, -⟩ := rel
  have c : CelT L C x mo R th tcl tfl la kc kh mc mf mh := c
  have e : EqT I J mo th tcl tfl la kh mc mf mh := e
  obtain ⟨c1, c2, c3, c4, c5, c6, c7, c8, c9⟩ := c
  obtain ⟨e1, e2, e3, e4, e5, e6, e7⟩ := e
  have g := rf_8_2 oI c1.1 c1.2.1
  have k21 : u2 I mo 0 0 mo 21 = I th 2 := by rw [u2_nk (by decide), e1]
  simp only [F_X10_field, nm, has8 g.1, isW, ite1, cI0, cI2, c1.2.2, c3.2.2, Option.getD_some] at fa
  simp only [F_X11_field, F_X11_field_46, F_X11_field_47, nm, c8.2.2, Option.getD_some] at fb
  rw [k21, in8 g.1] at fb
  simp only [inM, ite1, Int32.toInt_toInt64, cJ0, cJ2] at fb
  by_cases h1 : 0 ≤ x1.toInt ∧ x1.toInt < (I th 2).toInt
  · rw [if_pos h1] at fa fb
    by_cases h2 : 0 ≤ x2.toInt ∧ x2.toInt ≤ 2
    · rw [if_pos h2] at fa fb
      rw [mul3, e3] at fa
      exact fa.symm.trans (pairE fb).1
    · rw [if_neg h2] at fa fb
      exact fa.symm.trans (pairE fb).1
  · rw [if_neg h1] at fa fb
    exact fa.symm.trans (pairE fb).1
theorem st_value {L : List Nat} {C : Nat → Nat} {x mo : Nat} {I I2 : hI} {J J2 : hJ} {R R2 : hR} (uq : Uq L C) (mx : x ∈ L) (kx : C x = 10) (mm : mo ∈ L) (km : C mo = 11) (oI : OkI L C I) (oR : OkR L C R) (ow0 : Ow L C R) (rel : RX L C x mo (I, J, R))  {ra rb : Int64} (fa : F_X10_value x I J R = ra) (oI1 : OkI L C I) (oR1 : OkR L C R) (fb : F_X11_value mo I J R = (rb, (I2, J2, R2))) (sb : Sm C ms_X11_value (I, J, R) (I2, J2, R2)) (oI2 : OkI L C I2) (oR2 : OkR L C R2) : RX L C x mo (I2, J2, R2) ∧ ra = rb := by
  refine ⟨RX.sm rel oI2 oR2 sb (by decide), ?_⟩
  obtain ⟨rw0, -, -, th, tcl, tfl, la, kc, kh, mc, mf, mh, c, e, -⟩ := rel
  have c : CelT L C x mo R th tcl tfl la kc kh mc mf mh := c
  have e : EqT I J mo th tcl tfl la kh mc mf mh := e
  obtain ⟨c1, c2, c3, c4, c5, c6, c7, c8, c9⟩ := c
  obtain ⟨e1, e2, e3, e4, e5, e6, e7⟩ := e
  simp only [F_X10_value, nm, c4.2.2, Option.getD_some] at fa
  simp only [F_X11_value, nm] at fb
  rw [e5] at fa
  exact fa.symm.trans (pairE fb).1
