theorem remI {b : Nat} {x1 x2 : Int32} {I : hI} {J : hJ} {R : hR} (h : (F_X0_remove b x1 x2 I J R).1 = 0) : (F_X0_remove b x1 x2 I J R).2.1 = I := by
  by_cases e : F_X0_placeOf b x1 x2 I J R = -1
  · simp only [F_X0_remove, nm, if_pos e]
  · exfalso
    have e9 : (F_X0_remove b x1 x2 I J R).1 = 1 := by simp only [F_X0_remove, nm, if_neg e]
    rw [e9] at h
    exact absurd h (by decide)
theorem addI {b : Nat} {x1 x2 : Int32} {I : hI} {J : hJ} {R : hR} (h : (F_X0_add b x1 x2 I J R).1 = 0) : (F_X0_add b x1 x2 I J R).2.1 = I := by
  by_cases e : (30 : Int32) ≤ I b 1
  · simp only [F_X0_add, nm, if_pos e]
  · by_cases e2 : F_X0_has b x1 x2 I J R = 0
    · exfalso
      have e9 : (F_X0_add b x1 x2 I J R).1 = 1 := by simp only [F_X0_add, nm, if_neg e, if_pos e2]
      rw [e9] at h
      exact absurd h (by decide)
    · simp only [F_X0_add, nm, if_neg e, if_neg e2]
theorem g_alias {L : List Nat} {C : Nat → Nat} {x mo : Nat} {I I1 I2 : hI} {J J1 J2 : hJ} {R R1 R2 : hR} {x1 x2 x3 : Int32} (uq : Uq L C) (mx : x ∈ L) (kx : C x = 10) (mm : mo ∈ L) (km : C mo = 11) (hz : x3 = 0 ∨ x3 = 1) (oI : OkI L C I) (oR : OkR L C R) (ow0 : Ow L C R) (rel : RW L C x mo (I, J, R)) {ra rb : Int32} (fa : F_X10_alias x x1 x2 x3 I J R = (ra, (I1, J1, R1))) (sa : Sm C ms_X10_alias (I, J, R) (I1, J1, R1)) (oI1 : OkI L C I1) (oR1 : OkR L C R1) (fb : F_X11_alias mo x1 x2 x3 I1 J1 R1 = (rb, (I2, J2, R2))) (sb : Sm C ms_X11_alias (I1, J1, R1) (I2, J2, R2)) (oI2 : OkI L C I2) (oR2 : OkR L C R2) : RW L C x mo (I2, J2, R2) ∧ ra = rb := by
  obtain ⟨-, relF, relK⟩ := rel
  have relF : RF L C x mo (I, J, R) := relF
  have relK : RK L C x mo (I, J, R) := relK
  obtain ⟨q1, q2⟩ := f_alias uq mx kx mm km hz oI oR ow0 relF fa sa oI1 oR1 fb sb oI2 oR2
  refine ⟨⟨⟨uq, mx, mm, oI2, oR2⟩, q1, ?_⟩, q2⟩
  obtain ⟨wy, mwy, vwy, kwy⟩ := rf_10_5 oR mx kx
  obtain ⟨ww, mww, vww, kww⟩ := rf_9_2 oR mwy kwy
  have key : (I1 = I ∧ J1 = J ∧ R1 = R) ∨ ∀ q, q < 100 → I1 ww q = -1 := by
    simp only [F_X10_alias, nm, nmW, nmU, vwy, Option.getD_some, forgetA vww] at fa
    by_cases h1 : F_X10_isName x1 = 1
    · rw [if_pos h1] at fa
      by_cases h2 : F_X10_isName x2 = 1
      · rw [if_pos h2] at fa
        by_cases h3 : x1 = x2
        · rw [if_pos h3] at fa
          obtain ⟨qa1, qa2, qa3, qa4⟩ := pairE fa
          exact Or.inl ⟨qa2.symm, qa3.symm, qa4.symm⟩
        · rw [if_neg h3] at fa
          by_cases h4 : x3 = 0
          · rw [if_pos h4] at fa
            by_cases h5 : (F_X0_remove ((R x 1).getD 0) x1 x2 I J R).1 = 0
            · rw [if_pos h5] at fa
              obtain ⟨qa1, qa2, qa3, qa4⟩ := pairE fa
              exact Or.inl ⟨qa2.symm.trans (remI h5), qa3.symm, qa4.symm⟩
            · rw [if_neg h5] at fa
              obtain ⟨qa1, qa2, qa3, qa4⟩ := pairE fa
              exact Or.inr (fun q hq => by rw [← qa2, fillF_at hq])
          · rw [if_neg h4] at fa
            by_cases h5 : (F_X0_add ((R x 1).getD 0) x1 x2 I J R).1 = 0
            · rw [if_pos h5] at fa
              obtain ⟨qa1, qa2, qa3, qa4⟩ := pairE fa
              exact Or.inl ⟨qa2.symm.trans (addI h5), qa3.symm, qa4.symm⟩
            · rw [if_neg h5] at fa
              obtain ⟨qa1, qa2, qa3, qa4⟩ := pairE fa
              exact Or.inr (fun q hq => by rw [← qa2, fillF_at hq])
      · rw [if_neg h2] at fa
        obtain ⟨qa1, qa2, qa3, qa4⟩ := pairE fa
        exact Or.inl ⟨qa2.symm, qa3.symm, qa4.symm⟩
    · rw [if_neg h1] at fa
      obtain ⟨qa1, qa2, qa3, qa4⟩ := pairE fa
      exact Or.inl ⟨qa2.symm, qa3.symm, qa4.symm⟩
  rcases key with ⟨e1, e2, e3⟩ | h
  · subst e1 e2 e3
    exact RK.sm uq mx mm oI oR relF relK oI2 oR2 q1 sb (by decide)
  · exact RK.new uq oR2 mx kx mww kww (fun q hq => (congrFun (smA sb kww (by decide) (by decide)) q).trans (h q hq))
