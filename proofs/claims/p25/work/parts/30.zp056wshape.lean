theorem RK.shape {L : List Nat} {C : Nat → Nat} {x mo : Nat} {I I1 I2 : hI} {J J2 : hJ} {R R2 : hR} {ms : List Nat} (uq : Uq L C) (mx : x ∈ L) (kx : C x = 10) (mm : mo ∈ L) (km : C mo = 11) (oI : OkI L C I) (oR : OkR L C R) (ow0 : Ow L C R) (rel : RF L C x mo (I, J, R)) (rk : RK L C x mo (I, J, R)) (oI2 : OkI L C I2) (oR2 : OkR L C R2) (rel2 : RF L C x mo (I2, J2, R2)) {sh wy ww s0 b : Nat} (a4 : At L C R x 4 sh 57) (a5 : At L C R x 5 wy 9) (aw : At L C R wy 2 ww 45) (hs0 : s0 < 20) (vb : R sh s0 = some b)
    (hI : ∃ ma me so fac j0, j0 < 6 ∧ R b 0 = some ma ∧ R ma j0 = some me ∧ R me 3 = some so ∧ R me 7 = some fac ∧ ∀ z, z ≠ b → z ≠ me → z ≠ so → z ≠ fac → z ≠ ww → I1 z = I z) (hw : ∀ q, q < 100 → I1 ww q = -1 ∨ (I1 ww q = I ww q ∧ 10 + q % 10 ≠ s0 ∧ 10 + q / 10 ≠ s0)) (sb : Sm C ms (I1, J, R) (I2, J2, R2)) (hm : codesK.all (fun z => !ms.contains z) = true) : RK L C x mo (I2, J2, R2) := by
  have hk : ∀ z ∈ codesK, ms.contains z = false := fun z hz => by have := List.all_eq_true.mp hm z hz; simpa using this
  have hn : ∀ z ∈ codesL, ms.contains z = false := fun z hz => hk z (List.mem_cons_of_mem _ hz)
  obtain ⟨fi, t, p, sh', ru, w, al, pa, co, ct, cl⟩ := ClF.get oR mx kx
  obtain rfl : sh' = sh := Option.some.inj (cl.2.2.2.1.2.2.symm.trans a4.2.2)
  obtain ⟨ma, me, so, fac, j0, hj0, vma, vme, vso, vfac, hI⟩ := hI
  obtain ⟨mb, kb⟩ := shapeAt oR a4.1 a4.2.1 hs0 vb
  obtain ⟨ma1, mma1, vma1, kma1⟩ := rf_7_0 oR mb kb
  obtain rfl : ma1 = ma := Option.some.inj (vma1.symm.trans vma)
  obtain ⟨me1, mme, vme1, kme⟩ := oR ma1 mma1 j0 (by rw [kma1]; exact hj0) (by rw [kma1]; exact fun e => absurd (show (6 : Nat) = 0 from e) (by decide))
  rw [kma1] at kme
  have kme : C me1 = 5 := Nat.succ.inj kme
  obtain rfl : me1 = me := Option.some.inj (vme1.symm.trans vme)
  obtain ⟨so1, mso, vso1, kso⟩ := rf_5_3 oR mme kme
  obtain rfl : so1 = so := Option.some.inj (vso1.symm.trans vso)
  obtain ⟨fa1, mfa, vfa1, kfa⟩ := rf_5_7 oR mme kme
  obtain rfl : fa1 = fac := Option.some.inj (vfa1.symm.trans vfac)
  have fr : ∀ z r, C z = r → r ≠ 7 → r ≠ 5 → r ≠ 54 → r ≠ 55 → r ≠ 45 → I1 z = I z := fun z r h z1 z2 z3 z4 z5 => hI z (ne_role h kb z1) (ne_role h kme z2) (ne_role h kso z3) (ne_role h kfa z4) (ne_role h aw.2.1 z5)
  have k5 := cl.2.2.2.2.2.1.2.1
  have k7 := cl.2.2.2.2.2.2.1.2.1
  have k8 := cl.2.2.2.2.2.2.2.1.2.1
  have k10 := cl.2.2.2.2.2.2.2.2.2.2.1
  refine RK.of uq mx kx mm km oI oR rel rk oI2 oR2 rel2 cl (cl.sm (u := (I1, J, R)) kx sb hn) a5 (a5.sm (u := (I1, J, R)) sb kx (hn 645 (by decide))) aw (aw.sm (u := (I1, J, R)) sb a5.2.1 (hn 578 (by decide))) ((smA sb k5 (by decide) (hn 2432 (by decide))).trans (fr w 38 k5 (by decide) (by decide) (by decide) (by decide) (by decide))) ((smO (k := 1) sb k7 (hn 1 (by decide))).trans (congrFun (fr al 0 k7 (by decide) (by decide) (by decide) (by decide) (by decide)) 1)) ((smA sb k8 (by decide) (hn 2560 (by decide))).trans (fr pa 40 k8 (by decide) (by decide) (by decide) (by decide) (by decide))) ((smA sb k10 (by decide) (hn 2624 (by decide))).trans (fr ct 41 k10 (by decide) (by decide) (by decide) (by decide) (by decide))) (fun q hq => ?_)
  have ew : I2 ww q = I1 ww q := congrFun (smA sb aw.2.1 (by decide) (hk 2880 (by decide))) q
  rcases hw q hq with h | ⟨h1, h2, h3⟩
  · exact Or.inl (ew.trans h)
  · refine Or.inr ⟨Or.inl (ew.trans h1), fun z hz => ⟨(sb sh' z (by rw [a4.2.1]; exact nm_arr (by decide) (hn 3648 (by decide)))).2.2, fun b' vb' => ?_⟩⟩
    have hz20 : z < 20 := by omega
    have hz0 : z ≠ s0 := by omega
    obtain ⟨mb', kb'⟩ := shapeAt oR a4.1 a4.2.1 hz20 vb'
    have hne : b' ≠ b := fun e => hz0 (ow0 sh' a4.1 sh' a4.1 z s0 b' rfl (by rw [a4.2.1]; exact ow57 hz20) (by rw [a4.2.1]; exact ow57 hs0) vb' (by rw [e]; exact vb)).2
    have m1 : MSame I I1 R R b' := MSame.oth (fac := fa1) ow0 oR mb kb mb' kb' hne hj0 vma1 vme1 vso1 (fun c hc n1 n2 n3 => hI c n1 n2 n3 (by rcases hc with h | h | h <;> exact ne_role h kfa (by decide)) (by rcases hc with h | h | h <;> exact ne_role h aw.2.1 (by decide)))
    have m2 : MSame I1 I2 R R2 b' := MSame.sm (u := (I1, J, R)) (v := (I2, J2, R2)) oR mb' kb' sb hn
    refine ⟨m2.1.trans m1.1, m2.2.1, fun ma' vma' j hj => ⟨(m2.2.2 ma' vma' j hj).1, fun c vc => ?_⟩⟩
    obtain ⟨p1, p2, p3, p4, p5⟩ := (m1.2.2 ma' vma' j hj).2 c vc
    obtain ⟨r1, r2, r3, r4, r5⟩ := (m2.2.2 ma' vma' j hj).2 c vc
    exact ⟨r1.trans p1, r2.trans p2, r3.trans p3, r4, fun s vs => (r5 s vs).trans (p5 s vs)⟩
theorem g_ask {L : List Nat} {C : Nat → Nat} {x mo : Nat} {I I1 I2 : hI} {J J1 J2 : hJ} {R R1 R2 : hR} (uq : Uq L C) (mx : x ∈ L) (kx : C x = 10) (mm : mo ∈ L) (km : C mo = 11) (oI : OkI L C I) (oR : OkR L C R) (ow0 : Ow L C R) (rel : RW L C x mo (I, J, R)) {x1 : Int32} {x2 : Int32} {x3 : Int32} {ra rb : Int32} (fa : F_X10_ask x x1 x2 x3 I J R = (ra, (I1, J1, R1))) (sa : Sm C ms_X10_ask (I, J, R) (I1, J1, R1)) (oI1 : OkI L C I1) (oR1 : OkR L C R1) (fb : F_X11_ask mo x1 x2 x3 I1 J1 R1 = (rb, (I2, J2, R2))) (sb : Sm C ms_X11_ask (I1, J1, R1) (I2, J2, R2)) (oI2 : OkI L C I2) (oR2 : OkR L C R2) : RW L C x mo (I2, J2, R2) ∧ ra = rb := by
  obtain ⟨-, relF, relK⟩ := rel
  have relF : RF L C x mo (I, J, R) := relF
  have relK : RK L C x mo (I, J, R) := relK
  obtain ⟨q1, q2⟩ := f_ask uq mx kx mm km oI oR ow0 relF fa sa oI1 oR1 fb sb oI2 oR2
  refine ⟨⟨⟨uq, mx, mm, oI2, oR2⟩, q1, ?_⟩, q2⟩
  obtain ⟨wy, mwy, vwy, kwy⟩ := rf_10_5 oR mx kx
  obtain ⟨ww, mww, vww, kww⟩ := rf_9_2 oR mwy kwy
  obtain ⟨sh, msh, vsh, ksh⟩ := rf_10_4 oR mx kx
  have same : (I1 = I ∧ J1 = J ∧ R1 = R) → RK L C x mo (I2, J2, R2) := fun ⟨e1, e2, e3⟩ => by
    subst e1 e2 e3
    exact RK.sm uq mx mm oI oR relF relK oI2 oR2 q1 sb (by decide)
  simp only [F_X10_ask, F_X10_isName, nm, nmU, nmW, isW, ite1, areS, cI0, cI9, cI99, vsh, vwy, Option.getD_some, lt6] at fa
  by_cases h1 : 0 ≤ x1.toInt ∧ x1.toInt ≤ 9
  · simp only [if_pos h1] at fa
    by_cases h2 : 0 ≤ x2.toInt ∧ x2.toInt ≤ 99
    · simp only [if_pos h2] at fa
      by_cases h3 : sortsOk x3.toInt
      · simp only [if_pos h3] at fa
        have n9 := nine h1
        obtain ⟨b, vb, mb, kb⟩ := shE oR msh ksh (show (10 + x1.toNatClampNeg) < 20 by omega)
        simp only [tenN h1, vb, Option.getD_some] at fa
        by_cases h6 : (I b 1).toInt < 6
        · simp only [if_pos h6] at fa
          have g1 := rf_7_1 oI mb kb
          obtain ⟨ma, mma, vma, kma⟩ := rf_7_0 oR mb kb
          obtain ⟨me, mme, vme, kme⟩ := rr_56 (i := I b 1) oR mma kma (vp_in_iff.mpr ⟨g1.1, h6⟩)
          obtain ⟨so, mso, vso, kso⟩ := rf_5_3 oR mme kme
          obtain ⟨fac, mfa, vfa, kfa⟩ := rf_5_7 oR mme kme
          have hj0 : (I b 1).toNatClampNeg < 6 := by have := nat_of g1.1; omega
          obtain ⟨K0, f1, f2, f3⟩ := forgetQ (a := x1.toNatClampNeg) (I := I) (J := J) vww (nat_of h1.1).symm n9
          rw [f1] at fa
          dsimp only at fa
          have hb0 : K0 b = I b := f2 b (ne_role kb kww (by decide))
          obtain ⟨K1, e1, e2, e3⟩ := add7 (x1 := x2) (x2 := x3) (I := K0) (J := J) vma (by rw [hb0]; exact vme) vso vfa (by rw [hb0]; omega)
          rw [e1] at fa
          obtain ⟨qa1, qa2, qa3, qa4⟩ := pairE fa
          subst qa2 qa3 qa4
          refine RK.shape uq mx kx mm km oI oR ow0 relF relK oI2 oR2 q1 ⟨msh, ksh, vsh⟩ ⟨mwy, kwy, vwy⟩ ⟨mww, kww, vww⟩ (show 10 + x1.toNatClampNeg < 20 by omega) vb ⟨ma, me, so, fac, _, hj0, vma, vme, vso, vfa, fun z z1 z2 z3 z4 z5 => (e3 z z1 z2 z3 z4).trans (f2 z z5)⟩ (fun q hq => ?_) sb (by decide)
          rw [e3 ww (ne_role kww kb (by decide)) (ne_role kww kme (by decide)) (ne_role kww kso (by decide)) (ne_role kww kfa (by decide)), f3 q hq]
          by_cases z : q / 10 = x1.toNatClampNeg ∨ q % 10 = x1.toNatClampNeg
          · rw [if_pos z]; exact Or.inl rfl
          · rw [if_neg z]; exact Or.inr ⟨rfl, by omega, by omega⟩
        · simp only [if_neg h6] at fa
          obtain ⟨qa1, qa2, qa3, qa4⟩ := pairE fa
          exact same ⟨qa2.symm, qa3.symm, qa4.symm⟩
      · simp only [if_neg h3] at fa
        obtain ⟨qa1, qa2, qa3, qa4⟩ := pairE fa
        exact same ⟨qa2.symm, qa3.symm, qa4.symm⟩
    · simp only [if_neg h2] at fa
      obtain ⟨qa1, qa2, qa3, qa4⟩ := pairE fa
      exact same ⟨qa2.symm, qa3.symm, qa4.symm⟩
  · simp only [if_neg h1] at fa
    obtain ⟨qa1, qa2, qa3, qa4⟩ := pairE fa
    exact same ⟨qa2.symm, qa3.symm, qa4.symm⟩
theorem g_offer {L : List Nat} {C : Nat → Nat} {x mo : Nat} {I I1 I2 : hI} {J J1 J2 : hJ} {R R1 R2 : hR} (uq : Uq L C) (mx : x ∈ L) (kx : C x = 10) (mm : mo ∈ L) (km : C mo = 11) (oI : OkI L C I) (oR : OkR L C R) (ow0 : Ow L C R) (rel : RW L C x mo (I, J, R)) {x1 : Int32} {x2 : Int32} {x3 : Int32} {ra rb : Int32} (fa : F_X10_offer x x1 x2 x3 I J R = (ra, (I1, J1, R1))) (sa : Sm C ms_X10_offer (I, J, R) (I1, J1, R1)) (oI1 : OkI L C I1) (oR1 : OkR L C R1) (fb : F_X11_offer mo x1 x2 x3 I1 J1 R1 = (rb, (I2, J2, R2))) (sb : Sm C ms_X11_offer (I1, J1, R1) (I2, J2, R2)) (oI2 : OkI L C I2) (oR2 : OkR L C R2) : RW L C x mo (I2, J2, R2) ∧ ra = rb := by
  obtain ⟨-, relF, relK⟩ := rel
  have relF : RF L C x mo (I, J, R) := relF
  have relK : RK L C x mo (I, J, R) := relK
  obtain ⟨q1, q2⟩ := f_offer uq mx kx mm km oI oR ow0 relF fa sa oI1 oR1 fb sb oI2 oR2
  refine ⟨⟨⟨uq, mx, mm, oI2, oR2⟩, q1, ?_⟩, q2⟩
  obtain ⟨wy, mwy, vwy, kwy⟩ := rf_10_5 oR mx kx
  obtain ⟨ww, mww, vww, kww⟩ := rf_9_2 oR mwy kwy
  obtain ⟨sh, msh, vsh, ksh⟩ := rf_10_4 oR mx kx
  have same : (I1 = I ∧ J1 = J ∧ R1 = R) → RK L C x mo (I2, J2, R2) := fun ⟨e1, e2, e3⟩ => by
    subst e1 e2 e3
    exact RK.sm uq mx mm oI oR relF relK oI2 oR2 q1 sb (by decide)
  simp only [F_X10_offer, F_X10_isName, nm, nmU, nmW, isW, ite1, areS, cI0, cI9, cI99, vsh, vwy, Option.getD_some, lt6] at fa
  by_cases h1 : 0 ≤ x1.toInt ∧ x1.toInt ≤ 9
  · simp only [if_pos h1] at fa
    by_cases h2 : 0 ≤ x2.toInt ∧ x2.toInt ≤ 99
    · simp only [if_pos h2] at fa
      by_cases h3 : sortsOk x3.toInt
      · simp only [if_pos h3] at fa
        have n9 := nine h1
        obtain ⟨b, vb, mb, kb⟩ := shE oR msh ksh (show x1.toNatClampNeg < 20 by omega)
        simp only [vb, Option.getD_some] at fa
        by_cases h6 : (I b 1).toInt < 6
        · simp only [if_pos h6] at fa
          have g1 := rf_7_1 oI mb kb
          obtain ⟨ma, mma, vma, kma⟩ := rf_7_0 oR mb kb
          obtain ⟨me, mme, vme, kme⟩ := rr_56 (i := I b 1) oR mma kma (vp_in_iff.mpr ⟨g1.1, h6⟩)
          obtain ⟨so, mso, vso, kso⟩ := rf_5_3 oR mme kme
          obtain ⟨fac, mfa, vfa, kfa⟩ := rf_5_7 oR mme kme
          have hj0 : (I b 1).toNatClampNeg < 6 := by have := nat_of g1.1; omega
          obtain ⟨K1, e1, e2, e3⟩ := add7 (x1 := x2) (x2 := x3) (I := I) (J := J) vma vme vso vfa (by omega)
          rw [e1] at fa
          obtain ⟨qa1, qa2, qa3, qa4⟩ := pairE fa
          subst qa2 qa3 qa4
          refine RK.shape uq mx kx mm km oI oR ow0 relF relK oI2 oR2 q1 ⟨msh, ksh, vsh⟩ ⟨mwy, kwy, vwy⟩ ⟨mww, kww, vww⟩ (show x1.toNatClampNeg < 20 by omega) vb ⟨ma, me, so, fac, _, hj0, vma, vme, vso, vfa, fun z z1 z2 z3 z4 _ => e3 z z1 z2 z3 z4⟩ (fun q hq => ?_) sb (by decide)
          rw [e3 ww (ne_role kww kb (by decide)) (ne_role kww kme (by decide)) (ne_role kww kso (by decide)) (ne_role kww kfa (by decide))]
          exact Or.inr ⟨rfl, by omega, by omega⟩
        · simp only [if_neg h6] at fa
          obtain ⟨qa1, qa2, qa3, qa4⟩ := pairE fa
          exact same ⟨qa2.symm, qa3.symm, qa4.symm⟩
      · simp only [if_neg h3] at fa
        obtain ⟨qa1, qa2, qa3, qa4⟩ := pairE fa
        exact same ⟨qa2.symm, qa3.symm, qa4.symm⟩
    · simp only [if_neg h2] at fa
      obtain ⟨qa1, qa2, qa3, qa4⟩ := pairE fa
      exact same ⟨qa2.symm, qa3.symm, qa4.symm⟩
  · simp only [if_neg h1] at fa
    obtain ⟨qa1, qa2, qa3, qa4⟩ := pairE fa
    exact same ⟨qa2.symm, qa3.symm, qa4.symm⟩
theorem g_strip {L : List Nat} {C : Nat → Nat} {x mo : Nat} {I I1 I2 : hI} {J J1 J2 : hJ} {R R1 R2 : hR} (uq : Uq L C) (mx : x ∈ L) (kx : C x = 10) (mm : mo ∈ L) (km : C mo = 11) (oI : OkI L C I) (oR : OkR L C R) (ow0 : Ow L C R) (rel : RW L C x mo (I, J, R)) {x1 : Int32} {x2 : Int32} {ra rb : Int32} (fa : F_X10_strip x x1 x2 I J R = (ra, (I1, J1, R1))) (sa : Sm C ms_X10_strip (I, J, R) (I1, J1, R1)) (oI1 : OkI L C I1) (oR1 : OkR L C R1) (fb : F_X11_strip mo x1 x2 I1 J1 R1 = (rb, (I2, J2, R2))) (sb : Sm C ms_X11_strip (I1, J1, R1) (I2, J2, R2)) (oI2 : OkI L C I2) (oR2 : OkR L C R2) : RW L C x mo (I2, J2, R2) ∧ ra = rb := by
  obtain ⟨-, relF, relK⟩ := rel
  have relF : RF L C x mo (I, J, R) := relF
  have relK : RK L C x mo (I, J, R) := relK
  obtain ⟨q1, q2⟩ := f_strip uq mx kx mm km oI oR ow0 relF fa sa oI1 oR1 fb sb oI2 oR2
  refine ⟨⟨⟨uq, mx, mm, oI2, oR2⟩, q1, ?_⟩, q2⟩
  obtain ⟨wy, mwy, vwy, kwy⟩ := rf_10_5 oR mx kx
  obtain ⟨ww, mww, vww, kww⟩ := rf_9_2 oR mwy kwy
  obtain ⟨sh, msh, vsh, ksh⟩ := rf_10_4 oR mx kx
  have fin : ∀ (s0 b : Nat) (K0 : hI), s0 < 20 → R sh s0 = some b → I1 = u2 K0 b 1 0 → J1 = J → R1 = R → (∀ c, c ≠ ww → K0 c = I c) → (∀ q, q < 100 → K0 ww q = -1 ∨ (K0 ww q = I ww q ∧ 10 + q % 10 ≠ s0 ∧ 10 + q / 10 ≠ s0)) → RK L C x mo (I2, J2, R2) := fun s0 b K0 hs0 vb e1 e2 e3 h1 h2 => by
    subst e1 e2 e3
    obtain ⟨mb, kb⟩ := shapeAt oR msh ksh hs0 vb
    obtain ⟨ma, mma, vma, kma⟩ := rf_7_0 oR mb kb
    obtain ⟨me, mme, vme, kme⟩ := oR ma mma 0 (by rw [kma]; exact (by decide : (0 : Nat) < 6)) (by rw [kma]; exact fun e => absurd (show (6 : Nat) = 0 from e) (by decide))
    rw [kma] at kme
    have kme : C me = 5 := Nat.succ.inj kme
    obtain ⟨so, mso, vso, kso⟩ := rf_5_3 oR mme kme
    obtain ⟨fac, mfa, vfa, kfa⟩ := rf_5_7 oR mme kme
    refine RK.shape uq mx kx mm km oI oR ow0 relF relK oI2 oR2 q1 ⟨msh, ksh, vsh⟩ ⟨mwy, kwy, vwy⟩ ⟨mww, kww, vww⟩ hs0 vb ⟨ma, me, so, fac, 0, by decide, vma, vme, vso, vfa, fun z z1 _ _ _ z5 => (u2_ne z1).trans (h1 z z5)⟩ (fun q hq => ?_) sb (by decide)
    rw [u2_ne (ne_role kww kb (by decide))]
    exact h2 q hq
  simp only [F_X10_strip, nm, nmW, isW, ite1, cI0, show ((10 : Int32) - 1).toInt = 9 by decide, vsh, vwy, Option.getD_some] at fa
  by_cases h1 : 0 ≤ x2.toInt ∧ x2.toInt ≤ 9
  · simp only [if_pos h1] at fa
    have n9 := nine h1
    by_cases h0 : x1 = 0
    · simp only [if_pos h0] at fa
      obtain ⟨b, vb, mb, kb⟩ := shE oR msh ksh (show x2.toNatClampNeg < 20 by omega)
      simp only [vb, Option.getD_some] at fa
      obtain ⟨qa1, qa2, qa3, qa4⟩ := pairE fa
      exact fin x2.toNatClampNeg b I (by omega) vb qa2.symm qa3.symm qa4.symm (fun _ _ => rfl) (fun q hq => Or.inr ⟨rfl, by omega, by omega⟩)
    · simp only [if_neg h0] at fa
      obtain ⟨b, vb, mb, kb⟩ := shE oR msh ksh (show 10 + x2.toNatClampNeg < 20 by omega)
      obtain ⟨K0, f1, f2, f3⟩ := forgetQ (a := x2.toNatClampNeg) (I := I) (J := J) vww (nat_of h1.1).symm n9
      simp only [f1, tenN h1, vb, Option.getD_some] at fa
      obtain ⟨qa1, qa2, qa3, qa4⟩ := pairE fa
      refine fin (10 + x2.toNatClampNeg) b K0 (by omega) vb qa2.symm qa3.symm qa4.symm f2 (fun q hq => ?_)
      rw [f3 q hq]
      by_cases z : q / 10 = x2.toNatClampNeg ∨ q % 10 = x2.toNatClampNeg
      · rw [if_pos z]; exact Or.inl rfl
      · rw [if_neg z]; exact Or.inr ⟨rfl, by omega, by omega⟩
  · simp only [if_neg h1] at fa
    have e : (ra, (I1, J1, R1)) = ((-3 : Int32), (I, J, R)) := by
      by_cases h0 : x1 = 0
      · rw [if_pos h0] at fa; exact fa.symm
      · rw [if_neg h0] at fa; exact fa.symm
    obtain ⟨qa1, qa2, qa3, qa4⟩ := pairE e
    subst qa2 qa3 qa4
    exact RK.sm uq mx mm oI oR relF relK oI2 oR2 q1 sb (by decide)
