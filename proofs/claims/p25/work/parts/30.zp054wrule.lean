theorem g_rule {L : List Nat} {C : Nat → Nat} {x mo : Nat} {I I1 I2 : hI} {J J1 J2 : hJ} {R R1 R2 : hR} (uq : Uq L C) (mx : x ∈ L) (kx : C x = 10) (mm : mo ∈ L) (km : C mo = 11) (oI : OkI L C I) (oR : OkR L C R) (ow0 : Ow L C R) (rel : RW L C x mo (I, J, R)) {x1 : Int32} {x2 : Int32} {x3 : Int32} {x4 : Int32} {ra rb : Int32} (fa : F_X10_rule x x1 x2 x3 x4 I J R = (ra, (I1, J1, R1))) (sa : Sm C ms_X10_rule (I, J, R) (I1, J1, R1)) (oI1 : OkI L C I1) (oR1 : OkR L C R1) (fb : F_X11_rule mo x1 x2 x3 x4 I1 J1 R1 = (rb, (I2, J2, R2))) (sb : Sm C ms_X11_rule (I1, J1, R1) (I2, J2, R2)) (oI2 : OkI L C I2) (oR2 : OkR L C R2) : RW L C x mo (I2, J2, R2) ∧ ra = rb := by
  obtain ⟨-, relF, relK⟩ := rel
  have relF : RF L C x mo (I, J, R) := relF
  have relK : RK L C x mo (I, J, R) := relK
  obtain ⟨q1, q2⟩ := f_rule uq mx kx mm km oI oR ow0 relF fa sa oI1 oR1 fb sb oI2 oR2
  refine ⟨⟨⟨uq, mx, mm, oI2, oR2⟩, q1, ?_⟩, q2⟩
  obtain ⟨wy, mwy, vwy, kwy⟩ := rf_10_5 oR mx kx
  obtain ⟨ww, mww, vww, kww⟩ := rf_9_2 oR mwy kwy
  have key : (I1 = I ∧ J1 = J ∧ R1 = R) ∨ ∀ q, q < 100 → I1 ww q = -1 := by
    obtain ⟨-, -, ru, rf, rt, rc, rb', rm, rth, w, fi, mf, mt, mc, mb, mp, mi, c, -, -⟩ := relF.1
    have c : CelR L C x mo R ru rf rt rc rb' rm rth w fi mf mt mc mb mp mi := c
    obtain ⟨c0, c1, c2, c3, c4, c5, c6, c7, c8, -⟩ := c
    obtain ⟨A1, A2, A3⟩ := rule10 (x1 := x1) (x2 := x2) (x3 := x3) (x4 := x4) (J := J) oI oR mx kx c0 c1 c2 c3 c4 c5 c6 c7 c8
    by_cases ok : ruleOk x1 x2 x3 x4
    · by_cases ht : (I ru 6).toInt ≤ 31
      · obtain ⟨K1, f0, -, -, -, -, -, -, -, -, f9, -⟩ := A3 ok ht
        rw [f0] at fa
        obtain ⟨qa1, qa2, qa3, qa4⟩ := pairE fa
        exact Or.inr (fun q hq => by rw [← qa2]; exact f9 wy ww vwy vww q hq)
      · rw [A2 ok ht] at fa
        obtain ⟨qa1, qa2, qa3, qa4⟩ := pairE fa
        exact Or.inl ⟨qa2.symm, qa3.symm, qa4.symm⟩
    · rw [A1 ok] at fa
      obtain ⟨qa1, qa2, qa3, qa4⟩ := pairE fa
      exact Or.inl ⟨qa2.symm, qa3.symm, qa4.symm⟩
  rcases key with ⟨e1, e2, e3⟩ | h
  · subst e1 e2 e3
    exact RK.sm uq mx mm oI oR relF relK oI2 oR2 q1 sb (by decide)
  · exact RK.new uq oR2 mx kx mww kww (fun q hq => (congrFun (smA sb kww (by decide) (by decide)) q).trans (h q hq))
