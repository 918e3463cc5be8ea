theorem st_rule {L : List Nat} {C : Nat → Nat} {x mo : Nat} {I I1 I2 : hI} {J J1 J2 : hJ} {R R1 R2 : hR} (uq : Uq L C) (mx : x ∈ L) (kx : C x = 10) (mm : mo ∈ L) (km : C mo = 11) (oI : OkI L C I) (oR : OkR L C R) (ow0 : Ow L C R) (rel : RXC L C x mo (I, J, R)) {x1 : Int32} {x2 : Int32} {x3 : Int32} {x4 : Int32} {ra rb : Int32} (fa : F_X10_rule x x1 x2 x3 x4 I J R = (ra, (I1, J1, R1))) (sa : Sm C ms_X10_rule (I, J, R) (I1, J1, R1)) (oI1 : OkI L C I1) (oR1 : OkR L C R1) (fb : F_X11_rule mo x1 x2 x3 x4 I1 J1 R1 = (rb, (I2, J2, R2))) (sb : Sm C ms_X11_rule (I1, J1, R1) (I2, J2, R2)) (oI2 : OkI L C I2) (oR2 : OkR L C R2) : RXC L C x mo (I2, J2, R2) ∧ ra = rb := by
  obtain ⟨q1, q2⟩ := h_rule uq mx kx mm km oI oR ow0 rel.1 fa sa oI1 oR1 fb sb oI2 oR2
  refine ⟨⟨q1, ?_⟩, q2⟩
  obtain ⟨ru, rth, c0, c6, e⟩ := rel.2
  have c0 : At L C R x 0 ru 6 := c0
  have c6 : At L C R ru 5 rth 37 := c6
  have e : I ru 7 = cntF (I rth) (I ru 6).toNatClampNeg := e
  obtain ⟨-, -, ru', rf, rt, rc, rb', rm, rth', w, fi, mf, mt, mc, mb, mp, mi, c, ee, -⟩ := rel.1.1.2.1.1
  have c : CelR L C x mo R ru' rf rt rc rb' rm rth' w fi mf mt mc mb mp mi := c
  have ee : EqR I mo ru' rf rt rc rb' rm rth' mf mt mc mb mp mi := ee
  have e12 := ee.2.2.2.2.2.2.2.2.1
  obtain ⟨d0, d1, d2, d3, d4, d5, d6, d7, d8, -⟩ := c
  obtain rfl : ru' = ru := Option.some.inj (d0.2.2.symm.trans c0.2.2)
  obtain rfl : rth' = rth := Option.some.inj (d6.2.2.symm.trans c6.2.2)
  obtain ⟨A1, A2, A3⟩ := rule10 (x1 := x1) (x2 := x2) (x3 := x3) (x4 := x4) (J := J) oI oR mx kx d0 d1 d2 d3 d4 d5 d6 d7 d8
  have key : RH L C x (I1, J1, R1) := by
    by_cases ok : ruleOk x1 x2 x3 x4
    · by_cases ht : (I ru' 6).toInt ≤ 31
      · obtain ⟨K1, f0, f1, -, -, -, -, -, f7, -, -, f10⟩ := A3 ok ht
        rw [f0] at fa
        (obtain ⟨qa1, qa2, qa3, qa4⟩ := pairE fa; subst qa1 qa2 qa3 qa4)
        refine ⟨ru', rth', c0, c6, ?_⟩
        show K1 ru' 7 = cntF (K1 rth') (K1 ru' 6).toNatClampNeg
        have e3 : (I ru' 6 + 1).toNatClampNeg = (I ru' 6).toNatClampNeg + 1 := by
          have h0 := nat_of (x := I ru' 6) (by omega)
          exact clamp_toInt (by rw [add1 (b := 31) ht (by omega)]; omega)
        rw [f10, f1, f7, e3, e]
        show _ = cntF (up (I rth') (I ru' 6).toNatClampNeg 1) (I ru' 6).toNatClampNeg + (if up (I rth') (I ru' 6).toNatClampNeg 1 (I ru' 6).toNatClampNeg = 0 then 0 else 1)
        rw [up_at, cnt_ge _ (Nat.le_refl _), if_neg (by decide)]
      · rw [A2 ok ht] at fa
        (obtain ⟨qa1, qa2, qa3, qa4⟩ := pairE fa; subst qa1 qa2 qa3 qa4)
        exact ⟨ru', rth', c0, c6, e⟩
    · rw [A1 ok] at fa
      (obtain ⟨qa1, qa2, qa3, qa4⟩ := pairE fa; subst qa1 qa2 qa3 qa4)
      exact ⟨ru', rth', c0, c6, e⟩
  exact RH.sm key kx sb (by decide)
theorem st_drop {L : List Nat} {C : Nat → Nat} {x mo : Nat} {I I1 I2 : hI} {J J1 J2 : hJ} {R R1 R2 : hR} (uq : Uq L C) (mx : x ∈ L) (kx : C x = 10) (mm : mo ∈ L) (km : C mo = 11) (oI : OkI L C I) (oR : OkR L C R) (ow0 : Ow L C R) (rel : RXC L C x mo (I, J, R)) {x1 : Int32} {ra rb : Int32} (fa : F_X10_drop x x1 I J R = (ra, (I1, J1, R1))) (sa : Sm C ms_X10_drop (I, J, R) (I1, J1, R1)) (oI1 : OkI L C I1) (oR1 : OkR L C R1) (fb : F_X11_drop mo x1 I1 J1 R1 = (rb, (I2, J2, R2))) (sb : Sm C ms_X11_drop (I1, J1, R1) (I2, J2, R2)) (oI2 : OkI L C I2) (oR2 : OkR L C R2) : RXC L C x mo (I2, J2, R2) ∧ ra = rb := by
  obtain ⟨q1, q2⟩ := h_drop uq mx kx mm km oI oR ow0 rel.1 fa sa oI1 oR1 fb sb oI2 oR2
  refine ⟨⟨q1, ?_⟩, q2⟩
  obtain ⟨ru, rth, c0, c6, e⟩ := rel.2
  have c0 : At L C R x 0 ru 6 := c0
  have c6 : At L C R ru 5 rth 37 := c6
  have e : I ru 7 = cntF (I rth) (I ru 6).toNatClampNeg := e
  obtain ⟨-, -, ru', rf, rt, rc, rb', rm, rth', w, fi, mf, mt, mc, mb, mp, mi, c, ee, -⟩ := rel.1.1.2.1.1
  have c : CelR L C x mo R ru' rf rt rc rb' rm rth' w fi mf mt mc mb mp mi := c
  have ee : EqR I mo ru' rf rt rc rb' rm rth' mf mt mc mb mp mi := ee
  have e12 := ee.2.2.2.2.2.2.2.2.1
  obtain ⟨d0, d1, d2, d3, d4, d5, d6, d7, d8, -⟩ := c
  obtain rfl : ru' = ru := Option.some.inj (d0.2.2.symm.trans c0.2.2)
  obtain rfl : rth' = rth := Option.some.inj (d6.2.2.symm.trans c6.2.2)
  obtain ⟨wy, mwy, vwy, kwy⟩ := rf_10_5 oR mx kx
  obtain ⟨ww, mww, vww, kww⟩ := rf_9_2 oR mwy kwy
  have c12 : Int32.toInt 12 = 12 := by decide
  have s9 : (I ru' 6 - 1).toInt = (I ru' 6).toInt - 1 := sub1 (b := 12) e12 (by omega)
  have hr := RlO (R := R) (p := 0) (i := 0) (j := 0) (k := 0) oI ⟨c0.1, c0.2.1⟩ ⟨d1.1, d1.2.1⟩ ⟨d2.1, d2.2.1⟩ ⟨d3.1, d3.2.1⟩
  simp only [F_X10_drop, F_X6_canForget, F_X6_forget, nm, nmW, isW, ite1, c12, c0.2.2, c6.2.2, vwy, Option.getD_some, s9, forgetA vww] at fa
  have key : RH L C x (I1, J1, R1) := by
    by_cases ok : 12 ≤ x1.toInt ∧ x1.toInt ≤ (I ru' 6).toInt - 1
    · rw [if_pos ok] at fa
      by_cases h0 : I rth' x1.toNatClampNeg = 0
      · rw [if_pos h0, if_neg (show ¬ ((0 : Int32) = 1) by decide)] at fa
        (obtain ⟨qa1, qa2, qa3, qa4⟩ := pairE fa; subst qa1 qa2 qa3 qa4)
        exact ⟨ru', rth', c0, c6, e⟩
      · rw [if_neg h0, if_pos rfl] at fa
        obtain ⟨K0, hK0⟩ : ∃ K0, K0 = u2 (u2 I rth' x1.toNatClampNeg 0) ru' 7 (u2 I rth' x1.toNatClampNeg 0 ru' 7 - 1) := ⟨_, rfl⟩
        rw [← hK0] at fa
        have k6 : K0 ru' 6 = I ru' 6 := by rw [hK0, u2_nk (by decide), u2_ne (ne_role c0.2.1 c6.2.1 (by decide))]
        have k7 : K0 ru' 7 = I ru' 7 - 1 := by rw [hK0, u2_at, u2_ne (ne_role c0.2.1 c6.2.1 (by decide))]
        have kt : K0 rth' = up (I rth') x1.toNatClampNeg 0 := by rw [hK0, u2_ne (ne_role c6.2.1 c0.2.1 (by decide)), u2_up]
        have ko : ∀ c r, C c = r → r ≠ 6 → r ≠ 37 → K0 c = I c := fun c r h q1 q2 => by rw [hK0, u2_ne (ne_role h c0.2.1 q1), u2_ne (ne_role h c6.2.1 q2)]
        have hr0 : Rl K0 ru' rf rt rc := by unfold Rl at *; rw [k6, ko rf 32 d1.2.1 (by decide) (by decide), ko rt 33 d2.2.1 (by decide) (by decide), ko rc 34 d3.2.1 (by decide) (by decide)]; exact hr
        obtain ⟨K1, f0, f1, f2⟩ := measP (J := J) (I := K0) c0.2.1 d1 d2 d3 c6 d7 d8 hr0
        rw [f0] at fa
        (obtain ⟨qa1, qa2, qa3, qa4⟩ := pairE fa; subst qa1 qa2 qa3 qa4)
        have fo : ∀ c r, C c = r → r ≠ 38 → r ≠ 39 → r ≠ 45 → fillF K1 ww 100 (-1) c = K0 c := fun c r h q1 q2 q3 => by rw [fillF_ne (ne_role h kww q3), f1 c (by rw [h]; exact q1) (by rw [h]; exact q2)]
        refine ⟨ru', rth', c0, c6, ?_⟩
        show fillF K1 ww 100 (-1) ru' 7 = cntF (fillF K1 ww 100 (-1) rth') (fillF K1 ww 100 (-1) ru' 6).toNatClampNeg
        rw [fo ru' 6 c0.2.1 (by decide) (by decide) (by decide), fo rth' 37 c6.2.1 (by decide) (by decide) (by decide), k6, k7, kt, e]
        have h1 := nat_of (x := x1) (by omega)
        have h2 := nat_of (x := I ru' 6) (by omega)
        exact (cnt_lt h0 _ (by omega)).symm
    · rw [if_neg ok, if_neg (show ¬ ((0 : Int32) = 1) by decide)] at fa
      (obtain ⟨qa1, qa2, qa3, qa4⟩ := pairE fa; subst qa1 qa2 qa3 qa4)
      exact ⟨ru', rth', c0, c6, e⟩
  exact RH.sm key kx sb (by decide)
theorem st_ask {L : List Nat} {C : Nat → Nat} {x mo : Nat} {I I1 I2 : hI} {J J1 J2 : hJ} {R R1 R2 : hR} (uq : Uq L C) (mx : x ∈ L) (kx : C x = 10) (mm : mo ∈ L) (km : C mo = 11) (oI : OkI L C I) (oR : OkR L C R) (ow0 : Ow L C R) (rel : RXC L C x mo (I, J, R)) {x1 : Int32} {x2 : Int32} {x3 : Int32} {ra rb : Int32} (fa : F_X10_ask x x1 x2 x3 I J R = (ra, (I1, J1, R1))) (sa : Sm C ms_X10_ask (I, J, R) (I1, J1, R1)) (oI1 : OkI L C I1) (oR1 : OkR L C R1) (fb : F_X11_ask mo x1 x2 x3 I1 J1 R1 = (rb, (I2, J2, R2))) (sb : Sm C ms_X11_ask (I1, J1, R1) (I2, J2, R2)) (oI2 : OkI L C I2) (oR2 : OkR L C R2) : RXC L C x mo (I2, J2, R2) ∧ ra = rb := by
  obtain ⟨q1, q2⟩ := h_ask uq mx kx mm km oI oR ow0 rel.1 fa sa oI1 oR1 fb sb oI2 oR2
  refine ⟨⟨q1, ?_⟩, q2⟩
  exact RH.sm (RH.sm rel.2 kx sa (by decide)) kx sb (by decide)
theorem st_offer {L : List Nat} {C : Nat → Nat} {x mo : Nat} {I I1 I2 : hI} {J J1 J2 : hJ} {R R1 R2 : hR} (uq : Uq L C) (mx : x ∈ L) (kx : C x = 10) (mm : mo ∈ L) (km : C mo = 11) (oI : OkI L C I) (oR : OkR L C R) (ow0 : Ow L C R) (rel : RXC L C x mo (I, J, R)) {x1 : Int32} {x2 : Int32} {x3 : Int32} {ra rb : Int32} (fa : F_X10_offer x x1 x2 x3 I J R = (ra, (I1, J1, R1))) (sa : Sm C ms_X10_offer (I, J, R) (I1, J1, R1)) (oI1 : OkI L C I1) (oR1 : OkR L C R1) (fb : F_X11_offer mo x1 x2 x3 I1 J1 R1 = (rb, (I2, J2, R2))) (sb : Sm C ms_X11_offer (I1, J1, R1) (I2, J2, R2)) (oI2 : OkI L C I2) (oR2 : OkR L C R2) : RXC L C x mo (I2, J2, R2) ∧ ra = rb := by
  obtain ⟨q1, q2⟩ := h_offer uq mx kx mm km oI oR ow0 rel.1 fa sa oI1 oR1 fb sb oI2 oR2
  refine ⟨⟨q1, ?_⟩, q2⟩
  exact RH.sm (RH.sm rel.2 kx sa (by decide)) kx sb (by decide)
theorem st_strip {L : List Nat} {C : Nat → Nat} {x mo : Nat} {I I1 I2 : hI} {J J1 J2 : hJ} {R R1 R2 : hR} (uq : Uq L C) (mx : x ∈ L) (kx : C x = 10) (mm : mo ∈ L) (km : C mo = 11) (oI : OkI L C I) (oR : OkR L C R) (ow0 : Ow L C R) (rel : RXC L C x mo (I, J, R)) {x1 : Int32} {x2 : Int32} {ra rb : Int32} (fa : F_X10_strip x x1 x2 I J R = (ra, (I1, J1, R1))) (sa : Sm C ms_X10_strip (I, J, R) (I1, J1, R1)) (oI1 : OkI L C I1) (oR1 : OkR L C R1) (fb : F_X11_strip mo x1 x2 I1 J1 R1 = (rb, (I2, J2, R2))) (sb : Sm C ms_X11_strip (I1, J1, R1) (I2, J2, R2)) (oI2 : OkI L C I2) (oR2 : OkR L C R2) : RXC L C x mo (I2, J2, R2) ∧ ra = rb := by
  obtain ⟨q1, q2⟩ := h_strip uq mx kx mm km oI oR ow0 rel.1 fa sa oI1 oR1 fb sb oI2 oR2
  refine ⟨⟨q1, ?_⟩, q2⟩
  exact RH.sm (RH.sm rel.2 kx sa (by decide)) kx sb (by decide)
theorem st_work {L : List Nat} {C : Nat → Nat} {x mo : Nat} {I I1 I2 : hI} {J J1 J2 : hJ} {R R1 R2 : hR} (uq : Uq L C) (mx : x ∈ L) (kx : C x = 10) (mm : mo ∈ L) (km : C mo = 11) (oI : OkI L C I) (oR : OkR L C R) (ow0 : Ow L C R) (rel : RXC L C x mo (I, J, R)) {x1 : Int32} {x2 : Int32} {x3 : Int32} {x4 : Int32} {x5 : Int32} {ra rb : Int32} (fa : F_X10_work x x1 x2 x3 x4 x5 I J R = (ra, (I1, J1, R1))) (sa : Sm C ms_X10_work (I, J, R) (I1, J1, R1)) (oI1 : OkI L C I1) (oR1 : OkR L C R1) (fb : F_X11_work mo x1 x2 x3 x4 x5 I1 J1 R1 = (rb, (I2, J2, R2))) (sb : Sm C ms_X11_work (I1, J1, R1) (I2, J2, R2)) (oI2 : OkI L C I2) (oR2 : OkR L C R2) : RXC L C x mo (I2, J2, R2) ∧ ra = rb := by
  obtain ⟨q1, q2⟩ := h_work uq mx kx mm km oI oR ow0 rel.1 fa sa oI1 oR1 fb sb oI2 oR2
  refine ⟨⟨q1, ?_⟩, q2⟩
  exact RH.sm (RH.sm rel.2 kx sa (by decide)) kx sb (by decide)
theorem st_times {L : List Nat} {C : Nat → Nat} {x mo : Nat} {I I1 I2 : hI} {J J1 J2 : hJ} {R R1 R2 : hR} (uq : Uq L C) (mx : x ∈ L) (kx : C x = 10) (mm : mo ∈ L) (km : C mo = 11) (oI : OkI L C I) (oR : OkR L C R) (ow0 : Ow L C R) (rel : RXC L C x mo (I, J, R)) {x1 : Int32} {x2 : Int32} {x3 : Int32} {x4 : Int32} {ra rb : Int32} (fa : F_X10_times x x1 x2 x3 x4 I J R = (ra, (I1, J1, R1))) (sa : Sm C ms_X10_times (I, J, R) (I1, J1, R1)) (oI1 : OkI L C I1) (oR1 : OkR L C R1) (fb : F_X11_times mo x1 x2 x3 x4 I1 J1 R1 = (rb, (I2, J2, R2))) (sb : Sm C ms_X11_times (I1, J1, R1) (I2, J2, R2)) (oI2 : OkI L C I2) (oR2 : OkR L C R2) : RXC L C x mo (I2, J2, R2) ∧ ra = rb := by
  obtain ⟨q1, q2⟩ := h_times uq mx kx mm km oI oR ow0 rel.1 fa sa oI1 oR1 fb sb oI2 oR2
  refine ⟨⟨q1, ?_⟩, q2⟩
  exact RH.sm (RH.sm rel.2 kx sa (by decide)) kx sb (by decide)
theorem st_alias {L : List Nat} {C : Nat → Nat} {x mo : Nat} {I I1 I2 : hI} {J J1 J2 : hJ} {R R1 R2 : hR} {x1 x2 x3 : Int32} (uq : Uq L C) (mx : x ∈ L) (kx : C x = 10) (mm : mo ∈ L) (km : C mo = 11) (hz : x3 = 0 ∨ x3 = 1) (oI : OkI L C I) (oR : OkR L C R) (ow0 : Ow L C R) (rel : RXC L C x mo (I, J, R)) {ra rb : Int32} (fa : F_X10_alias x x1 x2 x3 I J R = (ra, (I1, J1, R1))) (sa : Sm C ms_X10_alias (I, J, R) (I1, J1, R1)) (oI1 : OkI L C I1) (oR1 : OkR L C R1) (fb : F_X11_alias mo x1 x2 x3 I1 J1 R1 = (rb, (I2, J2, R2))) (sb : Sm C ms_X11_alias (I1, J1, R1) (I2, J2, R2)) (oI2 : OkI L C I2) (oR2 : OkR L C R2) : RXC L C x mo (I2, J2, R2) ∧ ra = rb := by
  obtain ⟨q1, q2⟩ := h_alias uq mx kx mm km hz oI oR ow0 rel.1 fa sa oI1 oR1 fb sb oI2 oR2
  refine ⟨⟨q1, ?_⟩, q2⟩
  exact RH.sm (RH.sm rel.2 kx sa (by decide)) kx sb (by decide)
theorem st_constant {L : List Nat} {C : Nat → Nat} {x mo : Nat} {I I1 I2 : hI} {J J1 J2 : hJ} {R R1 R2 : hR} (uq : Uq L C) (mx : x ∈ L) (kx : C x = 10) (mm : mo ∈ L) (km : C mo = 11) (oI : OkI L C I) (oR : OkR L C R) (ow0 : Ow L C R) (rel : RXC L C x mo (I, J, R)) {x1 : Int32} {x2 : Int32} {x3 : Int64} {ra rb : Int32} (fa : F_X10_constant x x1 x2 x3 I J R = (ra, (I1, J1, R1))) (sa : Sm C ms_X10_constant (I, J, R) (I1, J1, R1)) (oI1 : OkI L C I1) (oR1 : OkR L C R1) (fb : F_X11_constant mo x1 x2 x3 I1 J1 R1 = (rb, (I2, J2, R2))) (sb : Sm C ms_X11_constant (I1, J1, R1) (I2, J2, R2)) (oI2 : OkI L C I2) (oR2 : OkR L C R2) : RXC L C x mo (I2, J2, R2) ∧ ra = rb := by
  obtain ⟨q1, q2⟩ := h_constant uq mx kx mm km oI oR ow0 rel.1 fa sa oI1 oR1 fb sb oI2 oR2
  refine ⟨⟨q1, ?_⟩, q2⟩
  exact RH.sm (RH.sm rel.2 kx sa (by decide)) kx sb (by decide)
theorem st_way {L : List Nat} {C : Nat → Nat} {x mo : Nat} {I I1 I2 : hI} {J J1 J2 : hJ} {R R1 R2 : hR} (uq : Uq L C) (mx : x ∈ L) (kx : C x = 10) (mm : mo ∈ L) (km : C mo = 11) (oI : OkI L C I) (oR : OkR L C R) (ow0 : Ow L C R) (rel : RXC L C x mo (I, J, R)) {x1 : Int32} {x2 : Int32} {x3 : Int32} {ra rb : Int32} (fa : F_X10_way x x1 x2 x3 I J R = (ra, (I1, J1, R1))) (sa : Sm C ms_X10_way (I, J, R) (I1, J1, R1)) (oI1 : OkI L C I1) (oR1 : OkR L C R1) (fb : F_X11_way mo x1 x2 x3 I1 J1 R1 = (rb, (I2, J2, R2))) (sb : Sm C ms_X11_way (I1, J1, R1) (I2, J2, R2)) (oI2 : OkI L C I2) (oR2 : OkR L C R2) : RXC L C x mo (I2, J2, R2) ∧ ra = rb := by
  obtain ⟨q1, q2⟩ := h_way uq mx kx mm km oI oR ow0 rel.1 fa sa oI1 oR1 fb sb oI2 oR2
  refine ⟨⟨q1, ?_⟩, q2⟩
  exact RH.sm (RH.sm rel.2 kx sa (by decide)) kx sb (by decide)
theorem st_turn {L : List Nat} {C : Nat → Nat} {x mo : Nat} {I I1 I2 : hI} {J J1 J2 : hJ} {R R1 R2 : hR} (uq : Uq L C) (mx : x ∈ L) (kx : C x = 10) (mm : mo ∈ L) (km : C mo = 11) (oI : OkI L C I) (oR : OkR L C R) (ow0 : Ow L C R) (rel : RXC L C x mo (I, J, R)) {x1 : Int32} {x2 : Int32} {x3 : Int64} {ra rb : Int32} (fa : F_X10_turn x x1 x2 x3 I J R = (ra, (I1, J1, R1))) (sa : Sm C ms_X10_turn (I, J, R) (I1, J1, R1)) (oI1 : OkI L C I1) (oR1 : OkR L C R1) (fb : F_X11_turn mo x1 x2 x3 I1 J1 R1 = (rb, (I2, J2, R2))) (sb : Sm C ms_X11_turn (I1, J1, R1) (I2, J2, R2)) (oI2 : OkI L C I2) (oR2 : OkR L C R2) : RXC L C x mo (I2, J2, R2) ∧ ra = rb := by
  obtain ⟨q1, q2⟩ := h_turn uq mx kx mm km oI oR ow0 rel.1 fa sa oI1 oR1 fb sb oI2 oR2
  refine ⟨⟨q1, ?_⟩, q2⟩
  exact RH.sm (RH.sm rel.2 kx sa (by decide)) kx sb (by decide)
theorem st_object {L : List Nat} {C : Nat → Nat} {x mo : Nat} {I I1 I2 : hI} {J J1 J2 : hJ} {R R1 R2 : hR} (uq : Uq L C) (mx : x ∈ L) (kx : C x = 10) (mm : mo ∈ L) (km : C mo = 11) (oI : OkI L C I) (oR : OkR L C R) (ow0 : Ow L C R) (rel : RXC L C x mo (I, J, R)) {x1 : Int32} {ra rb : Int32} (fa : F_X10_object x x1 I J R = (ra, (I1, J1, R1))) (sa : Sm C ms_X10_object (I, J, R) (I1, J1, R1)) (oI1 : OkI L C I1) (oR1 : OkR L C R1) (fb : F_X11_object mo x1 I1 J1 R1 = (rb, (I2, J2, R2))) (sb : Sm C ms_X11_object (I1, J1, R1) (I2, J2, R2)) (oI2 : OkI L C I2) (oR2 : OkR L C R2) : RXC L C x mo (I2, J2, R2) ∧ ra = rb := by
  obtain ⟨q1, q2⟩ := h_object uq mx kx mm km oI oR ow0 rel.1 fa sa oI1 oR1 fb sb oI2 oR2
  refine ⟨⟨q1, ?_⟩, q2⟩
  exact RH.sm (RH.sm rel.2 kx sa (by decide)) kx sb (by decide)
theorem st_put {L : List Nat} {C : Nat → Nat} {x mo : Nat} {I I1 I2 : hI} {J J1 J2 : hJ} {R R1 R2 : hR} (uq : Uq L C) (mx : x ∈ L) (kx : C x = 10) (mm : mo ∈ L) (km : C mo = 11) (oI : OkI L C I) (oR : OkR L C R) (ow0 : Ow L C R) (rel : RXC L C x mo (I, J, R)) {x1 : Int32} {x2 : Int32} {x3 : Int64} {ra rb : Int32} (fa : F_X10_put x x1 x2 x3 I J R = (ra, (I1, J1, R1))) (sa : Sm C ms_X10_put (I, J, R) (I1, J1, R1)) (oI1 : OkI L C I1) (oR1 : OkR L C R1) (fb : F_X11_put mo x1 x2 x3 I1 J1 R1 = (rb, (I2, J2, R2))) (sb : Sm C ms_X11_put (I1, J1, R1) (I2, J2, R2)) (oI2 : OkI L C I2) (oR2 : OkR L C R2) : RXC L C x mo (I2, J2, R2) ∧ ra = rb := by
  obtain ⟨q1, q2⟩ := h_put uq mx kx mm km oI oR ow0 rel.1 fa sa oI1 oR1 fb sb oI2 oR2
  refine ⟨⟨q1, ?_⟩, q2⟩
  exact RH.sm (RH.sm rel.2 kx sa (by decide)) kx sb (by decide)
theorem st_hand {L : List Nat} {C : Nat → Nat} {x mo : Nat} {I I1 I2 : hI} {J J1 J2 : hJ} {R R1 R2 : hR} (uq : Uq L C) (mx : x ∈ L) (kx : C x = 10) (mm : mo ∈ L) (km : C mo = 11) (oI : OkI L C I) (oR : OkR L C R) (ow0 : Ow L C R) (rel : RXC L C x mo (I, J, R)) {x1 : Int32} {x2 : Int64} {ra rb : Int32} (fa : F_X10_hand x x1 x2 I J R = (ra, (I1, J1, R1))) (sa : Sm C ms_X10_hand (I, J, R) (I1, J1, R1)) (oI1 : OkI L C I1) (oR1 : OkR L C R1) (fb : F_X11_hand mo x1 x2 I1 J1 R1 = (rb, (I2, J2, R2))) (sb : Sm C ms_X11_hand (I1, J1, R1) (I2, J2, R2)) (oI2 : OkI L C I2) (oR2 : OkR L C R2) : RXC L C x mo (I2, J2, R2) ∧ ra = rb := by
  obtain ⟨q1, q2⟩ := h_hand uq mx kx mm km oI oR ow0 rel.1 fa sa oI1 oR1 fb sb oI2 oR2
  refine ⟨⟨q1, ?_⟩, q2⟩
  exact RH.sm (RH.sm rel.2 kx sa (by decide)) kx sb (by decide)
theorem st_call {L : List Nat} {C : Nat → Nat} {x mo : Nat} {I I1 I2 : hI} {J J1 J2 : hJ} {R R1 R2 : hR} (uq : Uq L C) (mx : x ∈ L) (kx : C x = 10) (mm : mo ∈ L) (km : C mo = 11) (oI : OkI L C I) (oR : OkR L C R) (ow0 : Ow L C R) (rel : RXC L C x mo (I, J, R)) {x1 : Int32} {x2 : Int32} {x3 : Int32} {ra rb : Int32} (fa : F_X10_call x x1 x2 x3 I J R = (ra, (I1, J1, R1))) (sa : Sm C ms_X10_call (I, J, R) (I1, J1, R1)) (oI1 : OkI L C I1) (oR1 : OkR L C R1) (fb : F_X11_call mo x1 x2 x3 I1 J1 R1 = (rb, (I2, J2, R2))) (sb : Sm C ms_X11_call (I1, J1, R1) (I2, J2, R2)) (oI2 : OkI L C I2) (oR2 : OkR L C R2) : RXC L C x mo (I2, J2, R2) ∧ ra = rb := by
  obtain ⟨q1, q2⟩ := h_call uq mx kx mm km oI oR ow0 rel.1 fa sa oI1 oR1 fb sb oI2 oR2
  refine ⟨⟨q1, ?_⟩, q2⟩
  exact RH.sm (RH.sm rel.2 kx sa (by decide)) kx sb (by decide)
theorem st_through {L : List Nat} {C : Nat → Nat} {x mo : Nat} {I I1 I2 : hI} {J J1 J2 : hJ} {R R1 R2 : hR} (uq : Uq L C) (mx : x ∈ L) (kx : C x = 10) (mm : mo ∈ L) (km : C mo = 11) (oI : OkI L C I) (oR : OkR L C R) (ow0 : Ow L C R) (rel : RXC L C x mo (I, J, R)) {x1 : Int32} {x2 : Int32} {x3 : Int32} {x4 : Int32} {ra rb : Int32} (fa : F_X10_through x x1 x2 x3 x4 I J R = (ra, (I1, J1, R1))) (sa : Sm C ms_X10_through (I, J, R) (I1, J1, R1)) (oI1 : OkI L C I1) (oR1 : OkR L C R1) (fb : F_X11_through mo x1 x2 x3 x4 I1 J1 R1 = (rb, (I2, J2, R2))) (sb : Sm C ms_X11_through (I1, J1, R1) (I2, J2, R2)) (oI2 : OkI L C I2) (oR2 : OkR L C R2) : RXC L C x mo (I2, J2, R2) ∧ ra = rb := by
  obtain ⟨q1, q2⟩ := h_through uq mx kx mm km oI oR ow0 rel.1 fa sa oI1 oR1 fb sb oI2 oR2
  refine ⟨⟨q1, ?_⟩, q2⟩
  exact RH.sm (RH.sm rel.2 kx sa (by decide)) kx sb (by decide)
