/-! constants -/
def upJ (f : Nat → Int64) (k : Nat) (v : Int64) : Nat → Int64 := fun j => if j = k then v else f j
theorem u2_upJ {f : hJ} {a k : Nat} {v : Int64} : u2 f a k v a = upJ (f a) k v := u2_eq
def CelC (L : List Nat) (C : Nat → Nat) (x mo : Nat) (R : hR) (co ct cv hc hv : Nat) : Prop := At L C R x 2 co 2 ∧ At L C R co 0 ct 41 ∧ At L C R co 1 cv 42 ∧ At L C R mo 19 hc 80 ∧ At L C R mo 20 hv 81
def EqC (I : hI) (J : hJ) (ct cv hc hv : Nat) : Prop := I ct = I hc ∧ J cv = J hv
def RC (L : List Nat) (C : Nat → Nat) (x mo : Nat) (u : hU) : Prop := C x = 10 ∧ C mo = 11 ∧ ∃ co ct cv hc hv : Nat, CelC L C x mo u.2.2 co ct cv hc hv ∧ EqC u.1 u.2.1 ct cv hc hv
theorem smJ {C : Nat → Nat} {ms : List Nat} {u v : hU} {b r : Nat} (s : Sm C ms u v) (hb : C b = r) (hr : 32 ≤ r) (hm : ms.contains (r * 64) = false) : v.2.1 b = u.2.1 b := funext fun k => (s b k (by rw [hb]; exact nm_arr hr hm)).2.1
theorem RC.sm {L : List Nat} {C : Nat → Nat} {x mo : Nat} {ms : List Nat} {u v : hU} (rel : RC L C x mo u) (oR : OkR L C v.2.2) (s : Sm C ms u v) (hm : [642, 128, 129, 723, 724, 2624, 2688, 5120, 5184].all (fun z => !ms.contains z) = true) : RC L C x mo v := by
  obtain ⟨kx, km, co, ct, cv, hc, hv, ⟨c0, c1, c2, c3, c4⟩, e⟩ := rel
  have hn : ∀ z ∈ [642, 128, 129, 723, 724, 2624, 2688, 5120, 5184], ms.contains z = false := fun z hz => by have := List.all_eq_true.mp hm z hz; simpa using this
  refine ⟨kx, km, co, ct, cv, hc, hv, ⟨c0.sm s kx (hn 642 (by decide)), c1.sm s c0.2.1 (hn 128 (by decide)), c2.sm s c0.2.1 (hn 129 (by decide)), c3.sm s km (hn 723 (by decide)), c4.sm s km (hn 724 (by decide))⟩, ?_⟩
  unfold EqC at *
  rw [smA s c1.2.1 (by decide) (hn 2624 (by decide)), smA s c3.2.1 (by decide) (hn 5120 (by decide)), smJ s c2.2.1 (by decide) (hn 2688 (by decide)), smJ s c4.2.1 (by decide) (hn 5184 (by decide))]
  exact e
theorem RC.init {L : List Nat} {C : Nat → Nat} {x mo : Nat} {I : hI} {J : hJ} {R : hR} (z0 : Z0 L C I J) (oR : OkR L C R) (mx : x ∈ L) (kx : C x = 10) (mm : mo ∈ L) (km : C mo = 11) : RC L C x mo (I, J, R) := by
  obtain ⟨co, m1, v1, k1⟩ := rf_10_2 oR mx kx
  obtain ⟨ct, m2, v2, k2⟩ := rf_2_0 oR m1 k1
  obtain ⟨cv, m3, v3, k3⟩ := rf_2_1 oR m1 k1
  obtain ⟨hc, m4, v4, k4⟩ := rf_11_19 oR mm km
  obtain ⟨hv, m5, v5, k5⟩ := rf_11_20 oR mm km
  refine ⟨kx, km, co, ct, cv, hc, hv, ⟨⟨m1, k1, v1⟩, ⟨m2, k2, v2⟩, ⟨m3, k3, v3⟩, ⟨m4, k4, v4⟩, ⟨m5, k5, v5⟩⟩, ?_, ?_⟩
  · show I ct = I hc
    exact funext fun k => (z0.1 ct m2 k (by rw [k2]; rfl)).trans (z0.1 hc m4 k (by rw [k4]; rfl)).symm
  · show J cv = J hv
    exact funext fun k => (z0.2 cv m3 k).trans (z0.2 hv m5 k).symm
theorem cmpIn {v a b : Int64} : (if lg_cmp v a < 0 then (0 : Int32) else (if 0 < lg_cmp v b then (0 : Int32) else 1)) = if a.toInt ≤ v.toInt ∧ v.toInt ≤ b.toInt then 1 else 0 := @inM v a b
theorem cmp01 {v : Int64} : (if lg_cmp v 0 = 0 then (1 : Int32) else (if lg_cmp v 1 = 0 then (1 : Int32) else 0)) = if (0 : Int64).toInt ≤ v.toInt ∧ v.toInt ≤ (1 : Int64).toInt then 1 else 0 := by
  by_cases h0 : lg_cmp v 0 = 0
  · have := lc_eq rfl h0
    rw [if_pos h0, if_pos (by rw [cJ0] at *; rw [cJ1]; omega)]
  · have g0 := lc_ne rfl h0
    rw [if_neg h0]
    by_cases h1 : lg_cmp v 1 = 0
    · have := lc_eq rfl h1
      rw [if_pos h1, if_pos (by rw [cJ1] at *; rw [cJ0]; omega)]
    · have g1 := lc_ne rfl h1
      rw [if_neg h1, if_neg (by rw [cJ0] at *; rw [cJ1] at *; omega)]
theorem isofE {s : Int32} {v : Int64} : F_X10_isOf s v = F_X11_isOf s v := by
  simp only [F_X10_isOf, F_X11_isOf, nm, inM, ite11, cmpIn, cmp01]
theorem s3_constant {L : List Nat} {C : Nat → Nat} {x mo : Nat} {I I1 I2 : hI} {J J1 J2 : hJ} {R R1 R2 : hR} (uq : Uq L C) (mx : x ∈ L) (kx : C x = 10) (mm : mo ∈ L) (km : C mo = 11) (oI : OkI L C I) (oR : OkR L C R) (ow0 : Ow L C R) (rel : RC L C x mo (I, J, R)) {x1 : Int32} {x2 : Int32} {x3 : Int64} {ra rb : Int32} (fa : F_X10_constant x x1 x2 x3 I J R = (ra, (I1, J1, R1))) (sa : Sm C ms_X10_constant (I, J, R) (I1, J1, R1)) (oI1 : OkI L C I1) (oR1 : OkR L C R1) (fb : F_X11_constant mo x1 x2 x3 I1 J1 R1 = (rb, (I2, J2, R2))) (sb : Sm C ms_X11_constant (I1, J1, R1) (I2, J2, R2)) (oI2 : OkI L C I2) (oR2 : OkR L C R2) : RC L C x mo (I2, J2, R2) ∧ ra = rb := by
  have rel0 := rel
  obtain ⟨-, -, co, ct, cv, hc, hv, cc, ee⟩ := rel
  have cc : CelC L C x mo R co ct cv hc hv := cc
  have ee : EqC I J ct cv hc hv := ee
  obtain ⟨c0, c1, c2, c3, c4⟩ := cc
  obtain ⟨e1, e2⟩ := ee
  obtain ⟨wy, mwy, vwy, kwy⟩ := rf_10_5 oR mx kx
  obtain ⟨ww, mww, vww, kww⟩ := rf_9_2 oR mwy kwy
  simp only [F_X10_constant, nm, nmW, isS, ite1, c0.2.2, c1.2.2, c2.2.2, vwy, Option.getD_some, forgetA vww, isofE] at fa
  simp only [F_X11_constant, nm, inM, ite1, Int32.toInt_toInt64, cJ0, cJ6] at fb
  have same : (ra, (I1, J1, R1)) = ((-3 : Int32), (I, J, R)) → (rb, (I2, J2, R2)) = ((-3 : Int32), (u2 I1 mo 0 0, J1, R1)) → RC L C x mo (I2, J2, R2) ∧ ra = rb := fun h1 h2 => by
    (obtain ⟨qa1, qa2, qa3, qa4⟩ := pairE h1.symm; subst qa1 qa2 qa3 qa4)
    (obtain ⟨qa1, qa2, qa3, qa4⟩ := pairE h2.symm; subst qa1 qa2 qa3 qa4)
    exact ⟨RC.sm (ms := [11 * 64]) rel0 oR (Sm.stI Sm.rf km (by decide)) rfl, rfl⟩
  have main : ∀ r : Int32, (ra, (I1, J1, R1)) = (r, (fillF (u2 I ct x1.toNatClampNeg x2) ww 100 (-1), u2 J cv x1.toNatClampNeg x3, R)) → (rb, (I2, J2, R2)) = (r, (u2 (u2 I1 mo 0 0) hc x1.toNatClampNeg x2, u2 J1 hv x1.toNatClampNeg x3, R1)) → RC L C x mo (I2, J2, R2) ∧ ra = rb := fun r h1 h2 => by
    (obtain ⟨qa1, qa2, qa3, qa4⟩ := pairE h1.symm; subst qa1 qa2 qa3 qa4)
    (obtain ⟨qa1, qa2, qa3, qa4⟩ := pairE h2.symm; subst qa1 qa2 qa3 qa4)
    refine ⟨⟨kx, km, co, ct, cv, hc, hv, ⟨c0, c1, c2, c3, c4⟩, ?_, ?_⟩, rfl⟩
    · show u2 (u2 (fillF (u2 I ct x1.toNatClampNeg x2) ww 100 (-1)) mo 0 0) hc x1.toNatClampNeg x2 ct = u2 (u2 (fillF (u2 I ct x1.toNatClampNeg x2) ww 100 (-1)) mo 0 0) hc x1.toNatClampNeg x2 hc
      rw [u2_ne (ne_role c1.2.1 c3.2.1 (by decide)), u2_ne (ne_role c1.2.1 km (by decide)), fillF_ne (ne_role c1.2.1 kww (by decide)), u2_up, u2_up, u2_ne (ne_role c3.2.1 km (by decide)), fillF_ne (ne_role c3.2.1 kww (by decide)), u2_ne (ne_role c3.2.1 c1.2.1 (by decide)), e1]
    · show u2 (u2 J cv x1.toNatClampNeg x3) hv x1.toNatClampNeg x3 cv = u2 (u2 J cv x1.toNatClampNeg x3) hv x1.toNatClampNeg x3 hv
      rw [u2_ne (ne_role c2.2.1 c4.2.1 (by decide)), u2_upJ, u2_upJ, u2_ne (ne_role c4.2.1 c2.2.1 (by decide)), e2]
  have eh : ∀ {K : hI}, K hc = I ct → u2 K mo 0 0 hc = I ct := fun h => by rw [u2_ne (ne_role c3.2.1 km (by decide)), h]
  have kc : fillF (u2 I ct x1.toNatClampNeg x2) ww 100 (-1) hc = I ct := by rw [fillF_ne (ne_role c3.2.1 kww (by decide)), u2_ne (ne_role c3.2.1 c1.2.1 (by decide)), e1]
  have fin : (if I ct x1.toNatClampNeg = 0 then ((0 : Int32), (fillF (u2 I ct x1.toNatClampNeg x2) ww 100 (-1), u2 J cv x1.toNatClampNeg x3, R)) else ((1 : Int32), (fillF (u2 I ct x1.toNatClampNeg x2) ww 100 (-1), u2 J cv x1.toNatClampNeg x3, R))) = (ra, (I1, J1, R1)) → (if u2 I1 mo 0 0 hc x1.toNatClampNeg = 0 then ((0 : Int32), (u2 (u2 I1 mo 0 0) hc x1.toNatClampNeg x2, u2 J1 hv x1.toNatClampNeg x3, R1)) else ((1 : Int32), (u2 (u2 I1 mo 0 0) hc x1.toNatClampNeg x2, u2 J1 hv x1.toNatClampNeg x3, R1))) = (rb, (I2, J2, R2)) → RC L C x mo (I2, J2, R2) ∧ ra = rb := fun h1 h2 => by
    by_cases z : I ct x1.toNatClampNeg = 0
    · rw [if_pos z] at h1
      have h3 := h1
      (obtain ⟨qa1, qa2, qa3, qa4⟩ := pairE h1.symm; subst qa1 qa2 qa3 qa4)
      rw [eh kc, if_pos z] at h2
      exact main 0 rfl h2.symm
    · rw [if_neg z] at h1
      (obtain ⟨qa1, qa2, qa3, qa4⟩ := pairE h1.symm; subst qa1 qa2 qa3 qa4)
      rw [eh kc, if_neg z] at h2
      exact main 1 rfl h2.symm
  by_cases h1 : 0 ≤ x1.toInt ∧ x1.toInt ≤ 6
  · rw [if_pos h1] at fa fb
    by_cases h2 : x2 = 0
    · rw [if_pos h2] at fa fb
      have er : R1 = R := by
        by_cases z : I ct x1.toNatClampNeg = 0
        · rw [if_pos z] at fa; cases fa; rfl
        · rw [if_neg z] at fa; cases fa; rfl
      rw [er] at fb
      simp only [c3.2.2, c4.2.2, Option.getD_some] at fb
      rw [← er] at fb
      exact fin fa fb
    · rw [if_neg h2] at fa fb
      by_cases h3 : F_X11_isOf x1 x3 = 0
      · rw [if_pos h3] at fa fb
        exact same fa.symm fb.symm
      · rw [if_neg h3] at fa fb
        have er : R1 = R := by
          by_cases z : I ct x1.toNatClampNeg = 0
          · rw [if_pos z] at fa; cases fa; rfl
          · rw [if_neg z] at fa; cases fa; rfl
        rw [er] at fb
        simp only [c3.2.2, c4.2.2, Option.getD_some] at fb
        rw [← er] at fb
        exact fin fa fb
  · rw [if_neg h1] at fa fb
    exact same fa.symm fb.symm
