theorem h_object {L : List Nat} {C : Nat → Nat} {x mo : Nat} {I I1 I2 : hI} {J J1 J2 : hJ} {R R1 R2 : hR} (uq : Uq L C) (mx : x ∈ L) (kx : C x = 10) (mm : mo ∈ L) (km : C mo = 11) (oI : OkI L C I) (oR : OkR L C R) (ow0 : Ow L C R) (rel : RX L C x mo (I, J, R)) {x1 : Int32} {ra rb : Int32} (fa : F_X10_object x x1 I J R = (ra, (I1, J1, R1))) (sa : Sm C ms_X10_object (I, J, R) (I1, J1, R1)) (oI1 : OkI L C I1) (oR1 : OkR L C R1) (fb : F_X11_object mo x1 I1 J1 R1 = (rb, (I2, J2, R2))) (sb : Sm C ms_X11_object (I1, J1, R1) (I2, J2, R2)) (oI2 : OkI L C I2) (oR2 : OkR L C R2) : RX L C x mo (I2, J2, R2) ∧ ra = rb := by
  obtain ⟨rw0, rt0⟩ := rel
  have rw2 : RW L C x mo (I2, J2, R2) := RW.sm (RW.sm rw0 oI1 oR1 sa (by decide)) oI2 oR2 sb (by decide)
  obtain ⟨-, -, th, tcl, tfl, la, kc, kh, mc, mf, mh, c, e, a, b, ha, hb, hab⟩ := id rt0
  have c : CelT L C x mo R th tcl tfl la kc kh mc mf mh := c
  have e : EqT I J mo th tcl tfl la kh mc mf mh := e
  have c9 := c
  obtain ⟨c1, c2, c3, c4, c5, c6, c7, c8, c9'⟩ := c
  obtain ⟨e1, e2, e3, e4, e5, e6, e7⟩ := e
  have same : ∀ {r : Int32}, (r, (I, J, R)) = (ra, (I1, J1, R1)) → (r, (u2 I1 mo 0 0, J1, R1)) = (rb, (I2, J2, R2)) → RX L C x mo (I2, J2, R2) ∧ ra = rb := fun h1 h2 => by
    (obtain ⟨qa1, qa2, qa3, qa4⟩ := pairE h1; subst qa1 qa2 qa3 qa4)
    (obtain ⟨qa1, qa2, qa3, qa4⟩ := pairE h2; subst qa1 qa2 qa3 qa4)
    exact ⟨⟨rw2, RT.sm (ms := [11 * 64]) rt0 oR (Sm.stI Sm.rf km (by decide)) rfl⟩, rfl⟩
  have g := rf_8_2 oI c1.1 c1.2.1
  have c20 : Int32.toInt 20 = 20 := by decide
  simp only [F_X10_object, F_X8_add, nm, nmU, isW, ite1, cI0, cI9, c1.2.2, c2.2.2, Option.getD_some] at fa
  simp only [F_X11_object, nm, inM, ite1, Int32.toInt_toInt64, cJ0, cJ9, c7.2.2, Option.getD_some] at fb
  by_cases h1 : 0 ≤ x1.toInt ∧ x1.toInt ≤ 9
  · rw [if_pos h1] at fa fb
    by_cases h2 : (I th 2).toInt < 20
    · rw [if_pos (show I th 2 < 20 by rw [ilt, c20]; exact h2)] at fa
      (obtain ⟨qa1, qa2, qa3, qa4⟩ := pairE fa; subst qa1 qa2 qa3 qa4)
      have k21 : u2 (u2 (u2 I tcl (I th 2).toNatClampNeg x1) th 2 (I th 2 + 1)) mo 0 0 mo 21 = I th 2 := by rw [u2_nk (by decide), u2_ne (ne_role km c1.2.1 (by decide)), u2_ne (ne_role km c2.2.1 (by decide)), e1]
      rw [k21, if_neg (show ¬ I th 2 = 20 by rw [ieq, c20]; omega)] at fb
      simp only [c7.2.2, Option.getD_some] at fb
      (obtain ⟨qa1, qa2, qa3, qa4⟩ := pairE fb; subst qa1 qa2 qa3 qa4)
      refine ⟨⟨rw2, kx, km, th, tcl, tfl, la, kc, kh, mc, mf, mh, c9, ⟨?_, ?_, e3, e4, e5, ?_, ?_⟩, a, b, ha, hb, hab⟩, rfl⟩
      · show u2 (u2 (u2 (u2 (u2 I tcl (I th 2).toNatClampNeg x1) th 2 (I th 2 + 1)) mo 0 0) mc (I th 2).toNatClampNeg x1) mo 21 (I th 2 + 1) th 2 = u2 (u2 (u2 (u2 (u2 I tcl (I th 2).toNatClampNeg x1) th 2 (I th 2 + 1)) mo 0 0) mc (I th 2).toNatClampNeg x1) mo 21 (I th 2 + 1) mo 21
        rw [u2_at, u2_ne (ne_role c1.2.1 km (by decide)), u2_ne (ne_role c1.2.1 c7.2.1 (by decide)), u2_ne (ne_role c1.2.1 km (by decide)), u2_at]
      · show u2 (u2 (u2 (u2 (u2 I tcl (I th 2).toNatClampNeg x1) th 2 (I th 2 + 1)) mo 0 0) mc (I th 2).toNatClampNeg x1) mo 21 (I th 2 + 1) tcl = u2 (u2 (u2 (u2 (u2 I tcl (I th 2).toNatClampNeg x1) th 2 (I th 2 + 1)) mo 0 0) mc (I th 2).toNatClampNeg x1) mo 21 (I th 2 + 1) mc
        rw [u2_ne (ne_role c2.2.1 km (by decide)), u2_ne (ne_role c2.2.1 c7.2.1 (by decide)), u2_ne (ne_role c2.2.1 km (by decide)), u2_ne (ne_role c2.2.1 c1.2.1 (by decide)), u2_up, u2_ne (ne_role c7.2.1 km (by decide)), u2_up, u2_ne (ne_role c7.2.1 km (by decide)), u2_ne (ne_role c7.2.1 c1.2.1 (by decide)), u2_ne (ne_role c7.2.1 c2.2.1 (by decide)), e2]
      · show u2 (u2 (u2 (u2 (u2 I tcl (I th 2).toNatClampNeg x1) th 2 (I th 2 + 1)) mo 0 0) mc (I th 2).toNatClampNeg x1) mo 21 (I th 2 + 1) la 3 = u2 (u2 (u2 (u2 (u2 I tcl (I th 2).toNatClampNeg x1) th 2 (I th 2 + 1)) mo 0 0) mc (I th 2).toNatClampNeg x1) mo 21 (I th 2 + 1) mo 29
        rw [u2_ne (ne_role c4.2.1 km (by decide)), u2_ne (ne_role c4.2.1 c7.2.1 (by decide)), u2_ne (ne_role c4.2.1 km (by decide)), u2_ne (ne_role c4.2.1 c1.2.1 (by decide)), u2_ne (ne_role c4.2.1 c2.2.1 (by decide)), u2_nk (by decide), u2_ne (ne_role km c7.2.1 (by decide)), u2_nk (by decide), u2_ne (ne_role km c1.2.1 (by decide)), u2_ne (ne_role km c2.2.1 (by decide)), e6]
      · show u2 (u2 (u2 (u2 (u2 I tcl (I th 2).toNatClampNeg x1) th 2 (I th 2 + 1)) mo 0 0) mc (I th 2).toNatClampNeg x1) mo 21 (I th 2 + 1) la 4 = u2 (u2 (u2 (u2 (u2 I tcl (I th 2).toNatClampNeg x1) th 2 (I th 2 + 1)) mo 0 0) mc (I th 2).toNatClampNeg x1) mo 21 (I th 2 + 1) mo 30
        rw [u2_ne (ne_role c4.2.1 km (by decide)), u2_ne (ne_role c4.2.1 c7.2.1 (by decide)), u2_ne (ne_role c4.2.1 km (by decide)), u2_ne (ne_role c4.2.1 c1.2.1 (by decide)), u2_ne (ne_role c4.2.1 c2.2.1 (by decide)), u2_nk (by decide), u2_ne (ne_role km c7.2.1 (by decide)), u2_nk (by decide), u2_ne (ne_role km c1.2.1 (by decide)), u2_ne (ne_role km c2.2.1 (by decide)), e7]
    · rw [if_neg (show ¬ I th 2 < 20 by rw [ilt, c20]; exact h2)] at fa
      have hI : I1 = I := (pairE fa).2.1.symm
      have hJ : J1 = J := (pairE fa).2.2.1.symm
      have hR : R1 = R := (pairE fa).2.2.2.symm
      subst hI hJ hR
      rw [u2_nk (show (21 : Nat) ≠ 0 by decide), ← e1, if_pos (show I1 th 2 = 20 by rw [ieq, c20]; have := g.2; omega)] at fb
      exact same fa fb
  · rw [if_neg h1] at fa fb
    exact same fa fb
theorem h_put {L : List Nat} {C : Nat → Nat} {x mo : Nat} {I I1 I2 : hI} {J J1 J2 : hJ} {R R1 R2 : hR} (uq : Uq L C) (mx : x ∈ L) (kx : C x = 10) (mm : mo ∈ L) (km : C mo = 11) (oI : OkI L C I) (oR : OkR L C R) (ow0 : Ow L C R) (rel : RX L C x mo (I, J, R)) {x1 : Int32} {x2 : Int32} {x3 : Int64} {ra rb : Int32} (fa : F_X10_put x x1 x2 x3 I J R = (ra, (I1, J1, R1))) (sa : Sm C ms_X10_put (I, J, R) (I1, J1, R1)) (oI1 : OkI L C I1) (oR1 : OkR L C R1) (fb : F_X11_put mo x1 x2 x3 I1 J1 R1 = (rb, (I2, J2, R2))) (sb : Sm C ms_X11_put (I1, J1, R1) (I2, J2, R2)) (oI2 : OkI L C I2) (oR2 : OkR L C R2) : RX L C x mo (I2, J2, R2) ∧ ra = rb := by
  obtain ⟨rw0, rt0⟩ := rel
  have rw2 : RW L C x mo (I2, J2, R2) := RW.sm (RW.sm rw0 oI1 oR1 sa (by decide)) oI2 oR2 sb (by decide)
  obtain ⟨-, -, th, tcl, tfl, la, kc, kh, mc, mf, mh, c, e, a, b, ha, hb, hab⟩ := id rt0
  have c : CelT L C x mo R th tcl tfl la kc kh mc mf mh := c
  have e : EqT I J mo th tcl tfl la kh mc mf mh := e
  have c9 := c
  obtain ⟨c1, c2, c3, c4, c5, c6, c7, c8, c9'⟩ := c
  obtain ⟨e1, e2, e3, e4, e5, e6, e7⟩ := e
  have same : ∀ {r : Int32}, (r, (I, J, R)) = (ra, (I1, J1, R1)) → (r, (u2 I1 mo 0 0, J1, R1)) = (rb, (I2, J2, R2)) → RX L C x mo (I2, J2, R2) ∧ ra = rb := fun h1 h2 => by
    (obtain ⟨qa1, qa2, qa3, qa4⟩ := pairE h1; subst qa1 qa2 qa3 qa4)
    (obtain ⟨qa1, qa2, qa3, qa4⟩ := pairE h2; subst qa1 qa2 qa3 qa4)
    exact ⟨⟨rw2, RT.sm (ms := [11 * 64]) rt0 oR (Sm.stI Sm.rf km (by decide)) rfl⟩, rfl⟩
  have g := rf_8_2 oI c1.1 c1.2.1
  simp only [F_X10_put, nm, has8 g.1, isW, ite1, cI0, cI2, c1.2.2, c3.2.2, Option.getD_some] at fa
  have k21 : I1 = I → u2 I1 mo 0 0 mo 21 = I th 2 := fun h => by rw [h, u2_nk (by decide), e1]
  have hI : I1 = I := by
    by_cases h1 : 0 ≤ x1.toInt ∧ x1.toInt < (I th 2).toInt
    · rw [if_pos h1] at fa
      by_cases h2 : 0 ≤ x2.toInt ∧ x2.toInt ≤ 2
      · rw [if_pos h2] at fa; exact (pairE fa).2.1.symm
      · rw [if_neg h2] at fa; exact (pairE fa).2.1.symm
    · rw [if_neg h1] at fa; exact (pairE fa).2.1.symm
  subst hI
  simp only [F_X11_put, nm, c8.2.2, Option.getD_some] at fb
  rw [k21 rfl, in8 g.1] at fb
  simp only [inM, ite1, Int32.toInt_toInt64, cJ0, cJ2] at fb
  by_cases h1 : 0 ≤ x1.toInt ∧ x1.toInt < (I1 th 2).toInt
  · rw [if_pos h1] at fa fb
    by_cases h2 : 0 ≤ x2.toInt ∧ x2.toInt ≤ 2
    · rw [if_pos h2] at fa fb
      rw [mul3] at fa
      (obtain ⟨qa1, -, qa3, qa4⟩ := pairE fa; subst qa1 qa3 qa4)
      simp only [c8.2.2, Option.getD_some] at fb
      (obtain ⟨qb1, qb2, qb3, qb4⟩ := pairE fb; subst qb1 qb2 qb3 qb4)
      refine ⟨⟨rw2, kx, km, th, tcl, tfl, la, kc, kh, mc, mf, mh, c9, ⟨?_, ?_, ?_, ?_, ?_, ?_, ?_⟩, a, b, ha, hb, hab⟩, rfl⟩
      · show u2 I1 mo 0 0 th 2 = u2 I1 mo 0 0 mo 21
        rw [u2_ne (ne_role c1.2.1 km (by decide)), u2_nk (by decide), e1]
      · show u2 I1 mo 0 0 tcl = u2 I1 mo 0 0 mc
        rw [u2_ne (ne_role c2.2.1 km (by decide)), u2_ne (ne_role c7.2.1 km (by decide)), e2]
      · show u2 (u2 J tfl (3 * x1 + x2).toNatClampNeg x3) mf (3 * x1 + x2).toNatClampNeg x3 tfl = u2 (u2 J tfl (3 * x1 + x2).toNatClampNeg x3) mf (3 * x1 + x2).toNatClampNeg x3 mf
        rw [u2_ne (ne_role c3.2.1 c8.2.1 (by decide)), u2_upJ, u2_upJ, u2_ne (ne_role c8.2.1 c3.2.1 (by decide)), e3]
      · show u2 (u2 J tfl (3 * x1 + x2).toNatClampNeg x3) mf (3 * x1 + x2).toNatClampNeg x3 kh = u2 (u2 J tfl (3 * x1 + x2).toNatClampNeg x3) mf (3 * x1 + x2).toNatClampNeg x3 mh
        rw [u2_ne (ne_role c6.2.1 c8.2.1 (by decide)), u2_ne (ne_role c6.2.1 c3.2.1 (by decide)), u2_ne (ne_role c9'.2.1 c8.2.1 (by decide)), u2_ne (ne_role c9'.2.1 c3.2.1 (by decide)), e4]
      · show u2 (u2 J tfl (3 * x1 + x2).toNatClampNeg x3) mf (3 * x1 + x2).toNatClampNeg x3 la 0 = u2 (u2 J tfl (3 * x1 + x2).toNatClampNeg x3) mf (3 * x1 + x2).toNatClampNeg x3 mo 25
        rw [u2_ne (ne_role c4.2.1 c8.2.1 (by decide)), u2_ne (ne_role c4.2.1 c3.2.1 (by decide)), u2_ne (ne_role km c8.2.1 (by decide)), u2_ne (ne_role km c3.2.1 (by decide)), e5]
      · show u2 I1 mo 0 0 la 3 = u2 I1 mo 0 0 mo 29
        rw [u2_ne (ne_role c4.2.1 km (by decide)), u2_nk (by decide), e6]
      · show u2 I1 mo 0 0 la 4 = u2 I1 mo 0 0 mo 30
        rw [u2_ne (ne_role c4.2.1 km (by decide)), u2_nk (by decide), e7]
    · rw [if_neg h2] at fa fb
      have hJ : J1 = J := (pairE fa).2.2.1.symm
      have hR : R1 = R := (pairE fa).2.2.2.symm
      subst hJ hR
      exact same fa fb
  · rw [if_neg h1] at fa fb
    have hJ : J1 = J := (pairE fa).2.2.1.symm
    have hR : R1 = R := (pairE fa).2.2.2.symm
    subst hJ hR
    exact same fa fb
theorem h_hand {L : List Nat} {C : Nat → Nat} {x mo : Nat} {I I1 I2 : hI} {J J1 J2 : hJ} {R R1 R2 : hR} (uq : Uq L C) (mx : x ∈ L) (kx : C x = 10) (mm : mo ∈ L) (km : C mo = 11) (oI : OkI L C I) (oR : OkR L C R) (ow0 : Ow L C R) (rel : RX L C x mo (I, J, R)) {x1 : Int32} {x2 : Int64} {ra rb : Int32} (fa : F_X10_hand x x1 x2 I J R = (ra, (I1, J1, R1))) (sa : Sm C ms_X10_hand (I, J, R) (I1, J1, R1)) (oI1 : OkI L C I1) (oR1 : OkR L C R1) (fb : F_X11_hand mo x1 x2 I1 J1 R1 = (rb, (I2, J2, R2))) (sb : Sm C ms_X11_hand (I1, J1, R1) (I2, J2, R2)) (oI2 : OkI L C I2) (oR2 : OkR L C R2) : RX L C x mo (I2, J2, R2) ∧ ra = rb := by
  obtain ⟨rw0, rt0⟩ := rel
  have rw2 : RW L C x mo (I2, J2, R2) := RW.sm (RW.sm rw0 oI1 oR1 sa (by decide)) oI2 oR2 sb (by decide)
  obtain ⟨-, -, th, tcl, tfl, la, kc, kh, mc, mf, mh, c, e, a, b, ha, hb, hab⟩ := id rt0
  have c : CelT L C x mo R th tcl tfl la kc kh mc mf mh := c
  have e : EqT I J mo th tcl tfl la kh mc mf mh := e
  have c9 := c
  obtain ⟨c1, c2, c3, c4, c5, c6, c7, c8, c9'⟩ := c
  obtain ⟨e1, e2, e3, e4, e5, e6, e7⟩ := e
  have same : ∀ {r : Int32}, (r, (I, J, R)) = (ra, (I1, J1, R1)) → (r, (u2 I1 mo 0 0, J1, R1)) = (rb, (I2, J2, R2)) → RX L C x mo (I2, J2, R2) ∧ ra = rb := fun h1 h2 => by
    (obtain ⟨qa1, qa2, qa3, qa4⟩ := pairE h1; subst qa1 qa2 qa3 qa4)
    (obtain ⟨qa1, qa2, qa3, qa4⟩ := pairE h2; subst qa1 qa2 qa3 qa4)
    exact ⟨⟨rw2, RT.sm (ms := [11 * 64]) rt0 oR (Sm.stI Sm.rf km (by decide)) rfl⟩, rfl⟩
  obtain ⟨kh', mkh, vkh, kkh⟩ := rf_1_4 oR c5.1 c5.2.1
  obtain rfl : kh' = kh := Option.some.inj (vkh.symm.trans c6.2.2)
  simp only [F_X10_hand, nm, isW, ite1, cI0, cI3, c5.2.2, c6.2.2, Option.getD_some] at fa
  simp only [F_X11_hand, nm, inM, ite1, Int32.toInt_toInt64, cJ0, cJ3, c9'.2.2, Option.getD_some] at fb
  by_cases h1 : 0 ≤ x1.toInt ∧ x1.toInt ≤ 3
  · rw [if_pos h1] at fa fb
    (obtain ⟨qa1, qa2, qa3, qa4⟩ := pairE fa; subst qa1 qa2 qa3 qa4)
    simp only [c9'.2.2, Option.getD_some] at fb
    (obtain ⟨qb1, qb2, qb3, qb4⟩ := pairE fb; subst qb1 qb2 qb3 qb4)
    refine ⟨⟨rw2, kx, km, th, tcl, tfl, la, kc, kh', mc, mf, mh, c9, ⟨?_, ?_, ?_, ?_, ?_, ?_, ?_⟩, a, b, ha, hb, hab⟩, rfl⟩
    · show u2 I mo 0 0 th 2 = u2 I mo 0 0 mo 21
      rw [u2_ne (ne_role c1.2.1 km (by decide)), u2_nk (by decide), e1]
    · show u2 I mo 0 0 tcl = u2 I mo 0 0 mc
      rw [u2_ne (ne_role c2.2.1 km (by decide)), u2_ne (ne_role c7.2.1 km (by decide)), e2]
    · show u2 (u2 J kh' x1.toNatClampNeg x2) mh x1.toNatClampNeg x2 tfl = u2 (u2 J kh' x1.toNatClampNeg x2) mh x1.toNatClampNeg x2 mf
      rw [u2_ne (ne_role c3.2.1 c9'.2.1 (by decide)), u2_ne (ne_role c3.2.1 c6.2.1 (by decide)), u2_ne (ne_role c8.2.1 c9'.2.1 (by decide)), u2_ne (ne_role c8.2.1 c6.2.1 (by decide)), e3]
    · show u2 (u2 J kh' x1.toNatClampNeg x2) mh x1.toNatClampNeg x2 kh' = u2 (u2 J kh' x1.toNatClampNeg x2) mh x1.toNatClampNeg x2 mh
      rw [u2_ne (ne_role c6.2.1 c9'.2.1 (by decide)), u2_upJ, u2_upJ, u2_ne (ne_role c9'.2.1 c6.2.1 (by decide)), e4]
    · show u2 (u2 J kh' x1.toNatClampNeg x2) mh x1.toNatClampNeg x2 la 0 = u2 (u2 J kh' x1.toNatClampNeg x2) mh x1.toNatClampNeg x2 mo 25
      rw [u2_ne (ne_role c4.2.1 c9'.2.1 (by decide)), u2_ne (ne_role c4.2.1 c6.2.1 (by decide)), u2_ne (ne_role km c9'.2.1 (by decide)), u2_ne (ne_role km c6.2.1 (by decide)), e5]
    · show u2 I mo 0 0 la 3 = u2 I mo 0 0 mo 29
      rw [u2_ne (ne_role c4.2.1 km (by decide)), u2_nk (by decide), e6]
    · show u2 I mo 0 0 la 4 = u2 I mo 0 0 mo 30
      rw [u2_ne (ne_role c4.2.1 km (by decide)), u2_nk (by decide), e7]
  · rw [if_neg h1] at fa fb
    exact same fa fb
