theorem g_drop {L : List Nat} {C : Nat → Nat} {x mo : Nat} {I I1 I2 : hI} {J J1 J2 : hJ} {R R1 R2 : hR} (uq : Uq L C) (mx : x ∈ L) (kx : C x = 10) (mm : mo ∈ L) (km : C mo = 11) (oI : OkI L C I) (oR : OkR L C R) (ow0 : Ow L C R) (rel : RW L C x mo (I, J, R)) {x1 : Int32} {ra rb : Int32} (fa : F_X10_drop x x1 I J R = (ra, (I1, J1, R1))) (sa : Sm C ms_X10_drop (I, J, R) (I1, J1, R1)) (oI1 : OkI L C I1) (oR1 : OkR L C R1) (fb : F_X11_drop mo x1 I1 J1 R1 = (rb, (I2, J2, R2))) (sb : Sm C ms_X11_drop (I1, J1, R1) (I2, J2, R2)) (oI2 : OkI L C I2) (oR2 : OkR L C R2) : RW L C x mo (I2, J2, R2) ∧ ra = rb := by
  obtain ⟨-, relF, relK⟩ := rel
  have relF : RF L C x mo (I, J, R) := relF
  have relK : RK L C x mo (I, J, R) := relK
  obtain ⟨q1, q2⟩ := f_drop uq mx kx mm km oI oR ow0 relF fa sa oI1 oR1 fb sb oI2 oR2
  refine ⟨⟨⟨uq, mx, mm, oI2, oR2⟩, q1, ?_⟩, q2⟩
  obtain ⟨wy, mwy, vwy, kwy⟩ := rf_10_5 oR mx kx
  obtain ⟨ww, mww, vww, kww⟩ := rf_9_2 oR mwy kwy
  have key : (I1 = I ∧ J1 = J ∧ R1 = R) ∨ ∀ q, q < 100 → I1 ww q = -1 := by
    simp only [F_X10_drop, nm, nmW, vwy, Option.getD_some, forgetA vww] at fa
    repeat' split at fa
    all_goals (obtain ⟨qa1, qa2, qa3, qa4⟩ := pairE fa)
    all_goals first | exact Or.inl ⟨qa2.symm, qa3.symm, qa4.symm⟩ | exact Or.inr (fun q hq => by rw [← qa2, fillF_at hq])
  rcases key with ⟨e1, e2, e3⟩ | h
  · subst e1 e2 e3
    exact RK.sm uq mx mm oI oR relF relK oI2 oR2 q1 sb (by decide)
  · exact RK.new uq oR2 mx kx mww kww (fun q hq => (congrFun (smA sb kww (by decide) (by decide)) q).trans (h q hq))
