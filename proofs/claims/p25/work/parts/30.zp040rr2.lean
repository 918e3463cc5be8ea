
section RULE2
variable {L : List Nat} {C : Nat → Nat} {x mo ru rf rt rc rb rm rth w fi mf mt mc mb mp mi : Nat} {I : hI} {J : hJ} {R : hR} {x1 x2 x3 x4 : Int32}
theorem div4 (h : 0 ≤ x4.toInt) : (x4 / 10000).toInt = x4.toInt / 10000 ∧ (x4 - x4 / 10000 * 10000).toInt = x4.toInt % 10000 := by
  have c : Int32.toInt 10000 = ((10000 : Nat) : Int) := by decide
  have h1 := idiv (nat_of h).symm c (by omega)
  have h2 := irem (nat_of h).symm c (by omega)
  have := nat_of h
  exact ⟨by rw [h1]; omega, by rw [h2]; omega⟩
theorem tell6 (oI : OkI L C I) (mru : ru ∈ L) (k0 : C ru = 6) (c1 : At L C R ru 0 rf 32) (c2 : At L C R ru 1 rt 33) (c3 : At L C R ru 2 rc 34) (c4 : At L C R ru 3 rb 35) (c5 : At L C R ru 4 rm 36) (c6 : At L C R ru 5 rth 37) (c7 : At L C R ru 8 w 38) (c8 : At L C R ru 9 fi 39) {p q : Int32} (h1 : 0 ≤ x1.toInt ∧ x1.toInt ≤ 6) (h2 : 0 ≤ x2.toInt ∧ x2.toInt ≤ 6) (h3 : 0 ≤ x3.toInt ∧ x3.toInt ≤ 50) (ht : (I ru 6).toInt ≤ 31) :
    ∃ I1, F_X6_tell ru x1 x2 x3 p q I J R = (I ru 6, (I1, J, R)) ∧ I1 ru 6 = I ru 6 + 1 ∧ I1 rf = up (I rf) (I ru 6).toNatClampNeg x1 ∧ I1 rt = up (I rt) (I ru 6).toNatClampNeg x2 ∧ I1 rc = up (I rc) (I ru 6).toNatClampNeg x3 ∧ I1 rb = up (I rb) (I ru 6).toNatClampNeg p ∧ I1 rm = up (I rm) (I ru 6).toNatClampNeg q ∧ I1 rth = up (I rth) (I ru 6).toNatClampNeg 1 ∧ Tb I1 ru rf rt rc rth w fi ∧ (∀ c, C c = 45 → I1 c = I c) ∧ I1 ru 7 = I ru 7 + 1 := by
  obtain ⟨I1, e0, e1, e2, e3, e4, e5, e6, e7, e8, e9⟩ := keep6 (x1 := x1) (x2 := x2) (x3 := x3) (p := p) (q := q) (I := I) (J := J) k0 c1 c2 c3 c4 c5 c6
  have hr := RlO (R := R) (p := 0) (i := 0) (j := 0) (k := 0) oI ⟨mru, k0⟩ ⟨c1.1, c1.2.1⟩ ⟨c2.1, c2.2.1⟩ ⟨c3.1, c3.2.1⟩
  have hr1 : Rl I1 ru rf rt rc := by
    refine ⟨?_, fun e he => ?_⟩
    · rw [e1, add1 (b := 31) ht (by omega)]
      have := hr.1
      omega
    · rw [e2, e3, e4]
      by_cases q : e = (I ru 6).toNatClampNeg
      · subst q
        rw [up_at, up_at, up_at]
        exact ⟨h1, h2, h3⟩
      · rw [up_ne q, up_ne q, up_ne q]
        exact hr.2 e he
  obtain ⟨I2, f0, f1, f2⟩ := measP (J := J) (I := I1) k0 c1 c2 c3 c6 c7 c8 hr1
  have ks : ∀ c r, C c = r → r ≠ 38 → r ≠ 39 → I2 c = I1 c := fun c r h q1 q2 => f1 c (by rw [h]; exact q1) (by rw [h]; exact q2)
  refine ⟨I2, ?_, by rw [ks ru 6 k0 (by decide) (by decide)]; exact e1, by rw [ks rf 32 c1.2.1 (by decide) (by decide)]; exact e2, by rw [ks rt 33 c2.2.1 (by decide) (by decide)]; exact e3, by rw [ks rc 34 c3.2.1 (by decide) (by decide)]; exact e4, by rw [ks rb 35 c4.2.1 (by decide) (by decide)]; exact e5, by rw [ks rm 36 c5.2.1 (by decide) (by decide)]; exact e6, by rw [ks rth 37 c6.2.1 (by decide) (by decide)]; exact e7, f2, fun c kc => by rw [ks c 45 kc (by decide) (by decide)]; exact e8 c kc, by rw [ks ru 6 k0 (by decide) (by decide)]; exact e9⟩
  simp only [F_X6_tell, nm, nmW, e0, f0, e1]
  rw [addsub1 (by omega)]
theorem rule10 (oI : OkI L C I) (oR : OkR L C R) (mx : x ∈ L) (kx : C x = 10) (c0 : At L C R x 0 ru 6) (c1 : At L C R ru 0 rf 32) (c2 : At L C R ru 1 rt 33) (c3 : At L C R ru 2 rc 34) (c4 : At L C R ru 3 rb 35) (c5 : At L C R ru 4 rm 36) (c6 : At L C R ru 5 rth 37) (c7 : At L C R ru 8 w 38) (c8 : At L C R ru 9 fi 39) :
    (¬ ruleOk x1 x2 x3 x4 → F_X10_rule x x1 x2 x3 x4 I J R = (-3, (I, J, R))) ∧ (ruleOk x1 x2 x3 x4 → ¬ (I ru 6).toInt ≤ 31 → F_X10_rule x x1 x2 x3 x4 I J R = (-5, (I, J, R))) ∧
      (ruleOk x1 x2 x3 x4 → (I ru 6).toInt ≤ 31 → ∃ I1, F_X10_rule x x1 x2 x3 x4 I J R = (I ru 6, (I1, J, R)) ∧ I1 ru 6 = I ru 6 + 1 ∧ I1 rf = up (I rf) (I ru 6).toNatClampNeg x1 ∧ I1 rt = up (I rt) (I ru 6).toNatClampNeg x2 ∧ I1 rc = up (I rc) (I ru 6).toNatClampNeg x3 ∧ I1 rb = up (I rb) (I ru 6).toNatClampNeg (x4 / 10000 - 1000) ∧ I1 rm = up (I rm) (I ru 6).toNatClampNeg (x4 - x4 / 10000 * 10000 - 1000) ∧ I1 rth = up (I rth) (I ru 6).toNatClampNeg 1 ∧ Tb I1 ru rf rt rc rth w fi ∧ (∀ wy ww, R x 5 = some wy → R wy 2 = some ww → ∀ q, q < 100 → I1 ww q = -1) ∧ I1 ru 7 = I ru 7 + 1) := by
  obtain ⟨wy, mwy, vwy, kwy⟩ := rf_10_5 oR mx kx
  obtain ⟨ww, mww, vww, kww⟩ := rf_9_2 oR mwy kwy
  have c50 : Int32.toInt 50 = 50 := by decide
  have c2000 : Int32.toInt 2000 = 2000 := by decide
  have c32 : Int32.toInt 32 = 32 := by decide
  simp only [F_X10_rule, F_X6_hasRoom, nm, nmW, nmU, isS, isW, ite1, cI1, c50, c0.2.2, vwy, Option.getD_some, forgetA vww]
  by_cases h1 : 0 ≤ x1.toInt ∧ x1.toInt ≤ 6
  · simp only [if_pos h1]
    by_cases h2 : 0 ≤ x2.toInt ∧ x2.toInt ≤ 6
    · simp only [if_pos h2]
      by_cases h3 : x1 = x2
      · simp only [if_pos h3]
        have no : ¬ ruleOk x1 x2 x3 x4 := fun h => h.2.2.1 (by rw [h3])
        exact ⟨fun _ => trivial, fun h => absurd h no, fun h => absurd h no⟩
      · simp only [if_neg h3]
        by_cases h4 : 1 ≤ x3.toInt ∧ x3.toInt ≤ 50
        · simp only [if_pos h4]
          by_cases h5 : x4 < 0
          · have q := Rg_lt h5
            rw [cI0] at q
            simp only [if_pos h5]
            have no : ¬ ruleOk x1 x2 x3 x4 := fun h => by have := h.2.2.2.2.1; omega
            exact ⟨fun _ => trivial, fun h => absurd h no, fun h => absurd h no⟩
          · have q := Rg_nlt h5
            rw [cI0] at q
            obtain ⟨d1, d2⟩ := div4 q
            simp only [if_neg h5]
            simp only [ilt, ile, d1, d2, c2000, c32]
            by_cases h6 : 2000 < x4.toInt / 10000
            · simp only [if_pos h6]
              have no : ¬ ruleOk x1 x2 x3 x4 := fun h => by have := h.2.2.2.2.2.1; omega
              exact ⟨fun _ => trivial, fun h => absurd h no, fun h => absurd h no⟩
            · simp only [if_neg h6]
              by_cases h7 : x4.toInt % 10000 ≤ 2000
              · simp only [if_pos h7]
                have ok : ruleOk x1 x2 x3 x4 := ⟨h1, h2, Rg_ne h3, h4, q, by omega, h7⟩
                by_cases h8 : 32 ≤ (I ru 6).toInt
                · simp only [if_pos h8, if_neg (show ¬ ((0 : Int32) = 1) by decide)]
                  exact ⟨fun h => absurd ok h, fun _ _ => trivial, fun _ h => by omega⟩
                · simp only [if_neg h8, if_pos]
                  refine ⟨fun h => absurd ok h, fun _ h => by omega, fun _ h => ?_⟩
                  have oI1 : OkI L C (fillF I ww 100 (-1)) := fun a ha k hk => by
                    by_cases e : a = ww
                    · subst e
                      rw [kww] at hk ⊢
                      have hk : k < 100 := hk
                      rw [fillF_at hk]
                      exact ⟨by show (-2147483648 : Int) ≤ _; decide, by show _ ≤ (2147483647 : Int); decide, fun q => Bool.noConfusion q⟩
                    · rw [fillF_ne e]; exact oI a ha k hk
                  have hne : ∀ c r, C c = r → r ≠ 45 → fillF I ww 100 (-1) c = I c := fun c r hc hr => fillF_ne (ne_role hc kww hr)
                  obtain ⟨I1, g0, g⟩ := tell6 (J := J) (x1 := x1) (x2 := x2) (x3 := x3) (p := x4 / 10000 - 1000) (q := x4 - x4 / 10000 * 10000 - 1000) oI1 c0.1 c0.2.1 c1 c2 c3 c4 c5 c6 c7 c8 h1 h2 ⟨by omega, h4.2⟩ (by rw [hne ru 6 c0.2.1 (by decide)]; exact h)
                  rw [hne ru 6 c0.2.1 (by decide)] at g0 g
                  rw [hne rf 32 c1.2.1 (by decide), hne rt 33 c2.2.1 (by decide), hne rc 34 c3.2.1 (by decide), hne rb 35 c4.2.1 (by decide), hne rm 36 c5.2.1 (by decide), hne rth 37 c6.2.1 (by decide)] at g
                  obtain ⟨y1, y2, y3, y4, y5, y6, y7, y8, y9, y10⟩ := g
                  refine ⟨I1, by rw [g0], y1, y2, y3, y4, y5, y6, y7, y8, fun wy' ww' a1 a2 q hq => ?_, y10⟩
                  obtain rfl : wy = wy' := Option.some.inj a1
                  obtain rfl : ww = ww' := Option.some.inj (vww.symm.trans a2)
                  rw [y9 ww kww, fillF_at hq]
              · simp only [if_neg h7]
                have no : ¬ ruleOk x1 x2 x3 x4 := fun h => h7 h.2.2.2.2.2.2
                exact ⟨fun _ => trivial, fun h => absurd h no, fun h => absurd h no⟩
        · simp only [if_neg h4]
          have no : ¬ ruleOk x1 x2 x3 x4 := fun h => h4 h.2.2.2.1
          exact ⟨fun _ => trivial, fun h => absurd h no, fun h => absurd h no⟩
    · simp only [if_neg h2]
      have no : ¬ ruleOk x1 x2 x3 x4 := fun h => h2 h.2.1
      exact ⟨fun _ => trivial, fun h => absurd h no, fun h => absurd h no⟩
  · simp only [if_neg h1]
    have no : ¬ ruleOk x1 x2 x3 x4 := fun h => h1 h.1
    exact ⟨fun _ => trivial, fun h => absurd h no, fun h => absurd h no⟩
theorem rule11 (oI : OkI L C I) (mmo : mo ∈ L) (k0 : C mo = 11) (c1 : At L C R mo 2 mf 64) (c2 : At L C R mo 3 mt 65) (c3 : At L C R mo 4 mc 66) (c4 : At L C R mo 5 mb 67) (c5 : At L C R mo 6 mp 68) (c6 : At L C R mo 7 mi 69) :
    (¬ ruleOk x1 x2 x3 x4 → F_X11_rule mo x1 x2 x3 x4 I J R = (-3, (u2 I mo 0 0, J, R))) ∧ (ruleOk x1 x2 x3 x4 → ¬ (I mo 1).toInt ≤ 31 → F_X11_rule mo x1 x2 x3 x4 I J R = (-5, (u2 I mo 0 0, J, R))) ∧
      (ruleOk x1 x2 x3 x4 → (I mo 1).toInt ≤ 31 → ∃ I1, F_X11_rule mo x1 x2 x3 x4 I J R = (I mo 1, (I1, J, R)) ∧ I1 mo 1 = I mo 1 + 1 ∧ I1 mf = up (I mf) (I mo 1).toNatClampNeg x1 ∧ I1 mt = up (I mt) (I mo 1).toNatClampNeg x2 ∧ I1 mc = up (I mc) (I mo 1).toNatClampNeg x3 ∧ I1 mb = up (I mb) (I mo 1).toNatClampNeg (x4 / 10000 - 1000) ∧ I1 mp = up (I mp) (I mo 1).toNatClampNeg (x4 - x4 / 10000 * 10000 - 1000) ∧ I1 mi = up (I mi) (I mo 1).toNatClampNeg 1) := by
  have c2000 : Int32.toInt 2000 = 2000 := by decide
  have c32 : Int32.toInt 32 = 32 := by decide
  have j50 : Int64.toInt 50 = 50 := by decide
  have j2 : Int64.toInt 20002000 = 20002000 := by decide
  have hm := rf_11_1 oI mmo k0
  simp only [F_X11_rule, nm, nmW, inM, ite1, Int32.toInt_toInt64, cJ0, cJ1, cJ6, j50, j2]
  by_cases h1 : 0 ≤ x1.toInt ∧ x1.toInt ≤ 6
  · simp only [if_pos h1]
    by_cases h2 : 0 ≤ x2.toInt ∧ x2.toInt ≤ 6
    · simp only [if_pos h2]
      by_cases h3 : x1 = x2
      · simp only [if_pos h3]
        have no : ¬ ruleOk x1 x2 x3 x4 := fun h => h.2.2.1 (by rw [h3])
        exact ⟨fun _ => trivial, fun h => absurd h no, fun h => absurd h no⟩
      · simp only [if_neg h3]
        by_cases h4 : 1 ≤ x3.toInt ∧ x3.toInt ≤ 50
        · simp only [if_pos h4]
          by_cases h5 : 0 ≤ x4.toInt ∧ x4.toInt ≤ 20002000
          · obtain ⟨d1, d2⟩ := div4 h5.1
            simp only [if_pos h5, ilt, ile, d1, d2, c2000]
            rw [if_neg (show ¬ 2000 < x4.toInt / 10000 by omega)]
            by_cases h7 : x4.toInt % 10000 ≤ 2000
            · simp only [if_pos h7, u2_nk (show (1 : Nat) ≠ 0 by decide)]
              have ok : ruleOk x1 x2 x3 x4 := ⟨h1, h2, Rg_ne h3, h4, h5.1, by omega, h7⟩
              by_cases h8 : (I mo 1).toInt ≤ 31
              · rw [if_neg (show ¬ I mo 1 = 32 by rw [ieq, c32]; omega)]
                refine ⟨fun h => absurd ok h, fun _ h => absurd h8 h, fun _ _ => ?_⟩
                obtain ⟨I1, e0, e1, e2, e3, e4, e5, e6, e7⟩ := base11 (x1 := x1) (x2 := x2) (x3 := x3) (I := u2 I mo 0 0) (J := J) k0 c1 c2 c3 c4 c5 c6
                rw [u2_nk (show (1 : Nat) ≠ 0 by decide)] at e1 e2 e3 e4 e5 e6 e7
                have ne : ∀ c r, C c = r → r ≠ 11 → u2 I mo 0 0 c = I c := fun c r h q => u2_ne (ne_role h k0 q)
                rw [ne mf 64 c1.2.1 (by decide)] at e2
                rw [ne mt 65 c2.2.1 (by decide)] at e3
                rw [ne mc 66 c3.2.1 (by decide)] at e4
                rw [ne mb 67 c4.2.1 (by decide)] at e5
                rw [ne mp 68 c5.2.1 (by decide)] at e6
                rw [ne mi 69 c6.2.1 (by decide)] at e7
                have e9 : I1 mo 1 - 1 = I mo 1 := by rw [e1]; exact addsub1 (by omega)
                simp only [e0, e9, c4.2.2, c5.2.2, Option.getD_some]
                have kb := c4.2.1
                have kp := c5.2.1
                refine ⟨_, rfl, ?_, ?_, ?_, ?_, ?_, ?_, ?_⟩
                · rw [u2_ne (ne_role k0 kp (by decide)), u2_ne (ne_role k0 kb (by decide))]; exact e1
                · rw [u2_ne (ne_role c1.2.1 kp (by decide)), u2_ne (ne_role c1.2.1 kb (by decide))]; exact e2
                · rw [u2_ne (ne_role c2.2.1 kp (by decide)), u2_ne (ne_role c2.2.1 kb (by decide))]; exact e3
                · rw [u2_ne (ne_role c3.2.1 kp (by decide)), u2_ne (ne_role c3.2.1 kb (by decide))]; exact e4
                · rw [u2_ne (ne_role kb kp (by decide)), u2_up, e5, up_up]
                · rw [u2_up, u2_ne (ne_role kp kb (by decide)), e6, up_up]
                · rw [u2_ne (ne_role c6.2.1 kp (by decide)), u2_ne (ne_role c6.2.1 kb (by decide))]; exact e7
              · rw [if_pos (show I mo 1 = 32 by rw [ieq, c32]; have := hm.2; omega)]
                exact ⟨fun h => absurd ok h, fun _ _ => rfl, fun _ h => absurd h h8⟩
            · simp only [if_neg h7]
              have no : ¬ ruleOk x1 x2 x3 x4 := fun h => h7 h.2.2.2.2.2.2
              exact ⟨fun _ => trivial, fun h => absurd h no, fun h => absurd h no⟩
          · simp only [if_neg h5]
            have no : ¬ ruleOk x1 x2 x3 x4 := fun h => h5 ⟨h.2.2.2.2.1, by have := h.2.2.2.2.2.1; have := h.2.2.2.2.2.2; omega⟩
            exact ⟨fun _ => trivial, fun h => absurd h no, fun h => absurd h no⟩
        · simp only [if_neg h4]
          have no : ¬ ruleOk x1 x2 x3 x4 := fun h => h4 h.2.2.2.1
          exact ⟨fun _ => trivial, fun h => absurd h no, fun h => absurd h no⟩
    · simp only [if_neg h2]
      have no : ¬ ruleOk x1 x2 x3 x4 := fun h => h2 h.2.1
      exact ⟨fun _ => trivial, fun h => absurd h no, fun h => absurd h no⟩
  · simp only [if_neg h1]
    have no : ¬ ruleOk x1 x2 x3 x4 := fun h => h1 h.1
    exact ⟨fun _ => trivial, fun h => absurd h no, fun h => absurd h no⟩
end RULE2
theorem s0_rule {L : List Nat} {C : Nat → Nat} {x mo : Nat} {I I1 I2 : hI} {J J1 J2 : hJ} {R R1 R2 : hR} (uq : Uq L C) (mx : x ∈ L) (kx : C x = 10) (mm : mo ∈ L) (km : C mo = 11) (oI : OkI L C I) (oR : OkR L C R) (ow0 : Ow L C R) (rel : RR L C x mo (I, J, R)) {x1 : Int32} {x2 : Int32} {x3 : Int32} {x4 : Int32} {ra rb : Int32} (fa : F_X10_rule x x1 x2 x3 x4 I J R = (ra, (I1, J1, R1))) (sa : Sm C ms_X10_rule (I, J, R) (I1, J1, R1)) (oI1 : OkI L C I1) (oR1 : OkR L C R1) (fb : F_X11_rule mo x1 x2 x3 x4 I1 J1 R1 = (rb, (I2, J2, R2))) (sb : Sm C ms_X11_rule (I1, J1, R1) (I2, J2, R2)) (oI2 : OkI L C I2) (oR2 : OkR L C R2) : RR L C x mo (I2, J2, R2) ∧ ra = rb := by
  have rel0 := rel
  obtain ⟨-, -, ru, rf, rt, rc, rb, rm, rth, w, fi, mf, mt, mc, mb, mp, mi, c, e, t⟩ := rel
  have c : CelR L C x mo R ru rf rt rc rb rm rth w fi mf mt mc mb mp mi := c
  have e : EqR I mo ru rf rt rc rb rm rth mf mt mc mb mp mi := e
  have t : Tb I ru rf rt rc rth w fi := t
  have c9 := c
  obtain ⟨c0, c1, c2, c3, c4, c5, c6, c7, c8, d1, d2, d3, d4, d5, d6⟩ := c
  obtain ⟨e1, e2, e3, e4, e5, e6, e7, e8, e9, e10, e11⟩ := e
  obtain ⟨A1, A2, A3⟩ := rule10 (x1 := x1) (x2 := x2) (x3 := x3) (x4 := x4) (J := J) oI oR mx kx c0 c1 c2 c3 c4 c5 c6 c7 c8
  by_cases ok : ruleOk x1 x2 x3 x4
  · by_cases ht : (I ru 6).toInt ≤ 31
    · obtain ⟨K1, f0, f1, f2, f3, f4, f5, f6, f7, f8, -⟩ := A3 ok ht
      rw [f0] at fa
      (obtain ⟨qa1, qa2, qa3, qa4⟩ := pairE fa; subst qa1 qa2 qa3 qa4)
      have q : ∀ c r, C c = r → 32 ≤ r → ms_X10_rule.contains (r * 64) = false → K1 c = I c := fun c r h1 h2 h3 => smA sa h1 h2 h3
      have q1 : K1 mo 1 = I mo 1 := smO sa km (by decide)
      have g2 := q mf 64 d1.2.1 (by decide) (by decide)
      have g3 := q mt 65 d2.2.1 (by decide) (by decide)
      have g4 := q mc 66 d3.2.1 (by decide) (by decide)
      have g5 := q mb 67 d4.2.1 (by decide) (by decide)
      have g6 := q mp 68 d5.2.1 (by decide) (by decide)
      have g7 := q mi 69 d6.2.1 (by decide) (by decide)
      obtain ⟨-, -, B3⟩ := rule11 (x1 := x1) (x2 := x2) (x3 := x3) (x4 := x4) (I := K1) (J := J) oI1 mm km d1 d2 d3 d4 d5 d6
      obtain ⟨K2, h0, h1, h2, h3, h4, h5, h6, h7⟩ := B3 ok (by rw [q1, ← e1]; exact ht)
      rw [q1] at h0 h1 h2 h3 h4 h5 h6 h7
      rw [h0] at fb
      (obtain ⟨qa1, qa2, qa3, qa4⟩ := pairE fb; subst qa1 qa2 qa3 qa4)
      have s1 : K2 ru 6 = K1 ru 6 := smO sb c0.2.1 (by decide)
      have s : ∀ c r, C c = r → 32 ≤ r → ms_X11_rule.contains (r * 64) = false → K2 c = K1 c := fun c r h1 h2 h3 => smA sb h1 h2 h3
      have r2 := s rf 32 c1.2.1 (by decide) (by decide)
      have r3 := s rt 33 c2.2.1 (by decide) (by decide)
      have r4 := s rc 34 c3.2.1 (by decide) (by decide)
      have r5 := s rb 35 c4.2.1 (by decide) (by decide)
      have r6 := s rm 36 c5.2.1 (by decide) (by decide)
      have r7 := s rth 37 c6.2.1 (by decide) (by decide)
      have r8 := s w 38 c7.2.1 (by decide) (by decide)
      have r9 := s fi 39 c8.2.1 (by decide) (by decide)
      refine ⟨⟨kx, km, ru, rf, rt, rc, rb, rm, rth, w, fi, mf, mt, mc, mb, mp, mi, c9, ⟨?_, ?_, ?_, ?_, ?_, ?_, ?_, ?_, ?_, ?_, ?_⟩, f8.of s1 r2 r3 r4 r7 r8 r9⟩, e1⟩
      · show K2 ru 6 = K2 mo 1
        rw [s1, f1, h1, e1]
      · show K2 rf = K2 mf
        rw [r2, f2, h2, g2, e1, e2]
      · show K2 rt = K2 mt
        rw [r3, f3, h3, g3, e1, e3]
      · show K2 rc = K2 mc
        rw [r4, f4, h4, g4, e1, e4]
      · show K2 rth = K2 mi
        rw [r7, f7, h7, g7, e1, e5]
      · show K2 rm = K2 mp
        rw [r6, f6, h6, g6, e1, e6]
      · intro z hz
        show K2 rb z = K2 mb z
        rw [r5, f5, h5, g5, e1]
        by_cases y : z = (I mo 1).toNatClampNeg
        · rw [y, up_at, up_at]
        · rw [up_ne y, up_ne y]; exact e7 z hz
      · show K2 rb 8 = 10
        rw [r5, f5, up_ne (fun h => by have := nat_of (x := I ru 6) (by omega); omega)]
        exact e8
      · show 12 ≤ (K2 ru 6).toInt
        rw [s1, f1, add1 (b := 31) ht (by omega)]
        omega
      · show K2 rt 7 = 4
        rw [r3, f3, up_ne (fun h => by have := nat_of (x := I ru 6) (by omega); omega)]
        exact e10
      · show K2 rt 9 = 3
        rw [r3, f3, up_ne (fun h => by have := nat_of (x := I ru 6) (by omega); omega)]
        exact e11
    · rw [A2 ok ht] at fa
      (obtain ⟨qa1, qa2, qa3, qa4⟩ := pairE fa; subst qa1 qa2 qa3 qa4)
      obtain ⟨-, B2, -⟩ := rule11 (x1 := x1) (x2 := x2) (x3 := x3) (x4 := x4) (I := I) (J := J) oI1 mm km d1 d2 d3 d4 d5 d6
      rw [B2 ok (by rw [← e1]; exact ht)] at fb
      (obtain ⟨qa1, qa2, qa3, qa4⟩ := pairE fb; subst qa1 qa2 qa3 qa4)
      exact ⟨RR.sm (ms := [11 * 64]) rel0 oR (Sm.stI Sm.rf km (by decide)) rfl, rfl⟩
  · rw [A1 ok] at fa
    (obtain ⟨qa1, qa2, qa3, qa4⟩ := pairE fa; subst qa1 qa2 qa3 qa4)
    obtain ⟨B1, -, -⟩ := rule11 (x1 := x1) (x2 := x2) (x3 := x3) (x4 := x4) (I := I) (J := J) oI1 mm km d1 d2 d3 d4 d5 d6
    rw [B1 ok] at fb
    (obtain ⟨qa1, qa2, qa3, qa4⟩ := pairE fb; subst qa1 qa2 qa3 qa4)
    exact ⟨RR.sm (ms := [11 * 64]) rel0 oR (Sm.stI Sm.rf km (by decide)) rfl, rfl⟩
theorem s0_drop {L : List Nat} {C : Nat → Nat} {x mo : Nat} {I I1 I2 : hI} {J J1 J2 : hJ} {R R1 R2 : hR} (uq : Uq L C) (mx : x ∈ L) (kx : C x = 10) (mm : mo ∈ L) (km : C mo = 11) (oI : OkI L C I) (oR : OkR L C R) (ow0 : Ow L C R) (rel : RR L C x mo (I, J, R)) {x1 : Int32} {ra rb : Int32} (fa : F_X10_drop x x1 I J R = (ra, (I1, J1, R1))) (sa : Sm C ms_X10_drop (I, J, R) (I1, J1, R1)) (oI1 : OkI L C I1) (oR1 : OkR L C R1) (fb : F_X11_drop mo x1 I1 J1 R1 = (rb, (I2, J2, R2))) (sb : Sm C ms_X11_drop (I1, J1, R1) (I2, J2, R2)) (oI2 : OkI L C I2) (oR2 : OkR L C R2) : RR L C x mo (I2, J2, R2) ∧ ra = rb := by
  have rel0 := rel
  obtain ⟨-, -, ru, rf, rt, rc, rb, rm, rth, w, fi, mf, mt, mc, mb, mp, mi, c, e, t⟩ := rel
  have c : CelR L C x mo R ru rf rt rc rb rm rth w fi mf mt mc mb mp mi := c
  have e : EqR I mo ru rf rt rc rb rm rth mf mt mc mb mp mi := e
  have t : Tb I ru rf rt rc rth w fi := t
  have c9 := c
  obtain ⟨c0, c1, c2, c3, c4, c5, c6, c7, c8, d1, d2, d3, d4, d5, d6⟩ := c
  obtain ⟨e1, e2, e3, e4, e5, e6, e7, e8, e9, e10, e11⟩ := e
  obtain ⟨wy, mwy, vwy, kwy⟩ := rf_10_5 oR mx kx
  obtain ⟨ww, mww, vww, kww⟩ := rf_9_2 oR mwy kwy
  have c12 : Int32.toInt 12 = 12 := by decide
  have j12 : Int64.toInt 12 = 12 := by decide
  have s9 : (I ru 6 - 1).toInt = (I ru 6).toInt - 1 := sub1 (b := 12) e9 (by omega)
  have hr := RlO (R := R) (p := 0) (i := 0) (j := 0) (k := 0) oI ⟨c0.1, c0.2.1⟩ ⟨c1.1, c1.2.1⟩ ⟨c2.1, c2.2.1⟩ ⟨c3.1, c3.2.1⟩
  simp only [F_X10_drop, F_X6_canForget, F_X6_forget, nm, nmW, isW, ite1, c12, c0.2.2, c6.2.2, vwy, Option.getD_some, s9, forgetA vww] at fa
  simp only [F_X11_drop, nm, inM, ite1, Int32.toInt_toInt64, j12] at fb
  have t1 : ms_X10_drop.contains (11 * 64 + 1) = false := by decide
  by_cases ok : 12 ≤ x1.toInt ∧ x1.toInt ≤ (I ru 6).toInt - 1
  · rw [if_pos ok] at fa
    by_cases h0 : I rth x1.toNatClampNeg = 0
    · rw [if_pos h0, if_neg (show ¬ ((0 : Int32) = 1) by decide)] at fa
      (obtain ⟨qa1, qa2, qa3, qa4⟩ := pairE fa; subst qa1 qa2 qa3 qa4)
      rw [u2_nk (show (1 : Nat) ≠ 0 by decide), ← e1, s9, if_pos ok] at fb
      simp only [d6.2.2, Option.getD_some] at fb
      rw [u2_ne (ne_role d6.2.1 km (by decide)), ← e5, if_pos h0] at fb
      (obtain ⟨qa1, qa2, qa3, qa4⟩ := pairE fb; subst qa1 qa2 qa3 qa4)
      exact ⟨RR.sm (ms := [11 * 64]) rel0 oR (Sm.stI Sm.rf km (by decide)) rfl, rfl⟩
    · rw [if_neg h0, if_pos rfl] at fa
      obtain ⟨K0, hK0⟩ : ∃ K0, K0 = u2 (u2 I rth x1.toNatClampNeg 0) ru 7 (u2 I rth x1.toNatClampNeg 0 ru 7 - 1) := ⟨_, rfl⟩
      rw [← hK0] at fa
      have k6 : K0 ru 6 = I ru 6 := by rw [hK0, u2_nk (by decide), u2_ne (ne_role c0.2.1 c6.2.1 (by decide))]
      have kt : K0 rth = up (I rth) x1.toNatClampNeg 0 := by rw [hK0, u2_ne (ne_role c6.2.1 c0.2.1 (by decide)), u2_up]
      have ko : ∀ c r, C c = r → r ≠ 6 → r ≠ 37 → K0 c = I c := fun c r h q1 q2 => by rw [hK0, u2_ne (ne_role h c0.2.1 q1), u2_ne (ne_role h c6.2.1 q2)]
      have hr0 : Rl K0 ru rf rt rc := by unfold Rl at *; rw [k6, ko rf 32 c1.2.1 (by decide) (by decide), ko rt 33 c2.2.1 (by decide) (by decide), ko rc 34 c3.2.1 (by decide) (by decide)]; exact hr
      obtain ⟨K1, f0, f1, f2⟩ := measP (J := J) (I := K0) c0.2.1 c1 c2 c3 c6 c7 c8 hr0
      rw [f0] at fa
      (obtain ⟨qa1, qa2, qa3, qa4⟩ := pairE fa; subst qa1 qa2 qa3 qa4)
      have fo : ∀ c r, C c = r → r ≠ 38 → r ≠ 39 → r ≠ 45 → fillF K1 ww 100 (-1) c = K0 c := fun c r h q1 q2 q3 => by rw [fillF_ne (ne_role h kww q3), f1 c (by rw [h]; exact q1) (by rw [h]; exact q2)]
      have fp : ∀ c r, C c = r → r ≠ 45 → fillF K1 ww 100 (-1) c = K1 c := fun c r h q3 => fillF_ne (ne_role h kww q3)
      have m1 : fillF K1 ww 100 (-1) mo 1 = I mo 1 := by rw [fo mo 11 km (by decide) (by decide) (by decide), ko mo 11 km (by decide) (by decide)]
      rw [u2_nk (show (1 : Nat) ≠ 0 by decide), m1, ← e1, s9, if_pos ok] at fb
      simp only [d6.2.2, Option.getD_some] at fb
      rw [u2_ne (ne_role d6.2.1 km (by decide)), fo mi 69 d6.2.1 (by decide) (by decide) (by decide), ko mi 69 d6.2.1 (by decide) (by decide), ← e5, if_neg h0] at fb
      (obtain ⟨qa1, qa2, qa3, qa4⟩ := pairE fb; subst qa1 qa2 qa3 qa4)
      have no : ∀ c r, C c = r → r ≠ 69 → r ≠ 11 → u2 (u2 (fillF K1 ww 100 (-1)) mo 0 0) mi x1.toNatClampNeg 0 c = fillF K1 ww 100 (-1) c := fun c r h q1 q2 => by rw [u2_ne (ne_role h d6.2.1 q1), u2_ne (ne_role h km q2)]
      have all : ∀ c r, C c = r → r ≠ 69 → r ≠ 11 → r ≠ 38 → r ≠ 39 → r ≠ 45 → u2 (u2 (fillF K1 ww 100 (-1)) mo 0 0) mi x1.toNatClampNeg 0 c = K0 c := fun c r h q1 q2 q3 q4 q5 => by rw [no c r h q1 q2, fo c r h q3 q4 q5]
      have alI : ∀ c r, C c = r → r ≠ 69 → r ≠ 11 → r ≠ 38 → r ≠ 39 → r ≠ 45 → r ≠ 6 → r ≠ 37 → u2 (u2 (fillF K1 ww 100 (-1)) mo 0 0) mi x1.toNatClampNeg 0 c = I c := fun c r h q1 q2 q3 q4 q5 q6 q7 => by rw [all c r h q1 q2 q3 q4 q5, ko c r h q6 q7]
      have r6 : u2 (u2 (fillF K1 ww 100 (-1)) mo 0 0) mi x1.toNatClampNeg 0 ru 6 = I ru 6 := by rw [all ru 6 c0.2.1 (by decide) (by decide) (by decide) (by decide) (by decide), k6]
      refine ⟨⟨kx, km, ru, rf, rt, rc, rb, rm, rth, w, fi, mf, mt, mc, mb, mp, mi, c9, ⟨?_, ?_, ?_, ?_, ?_, ?_, ?_, ?_, ?_, ?_, ?_⟩, ?_⟩, rfl⟩
      · show u2 (u2 (fillF K1 ww 100 (-1)) mo 0 0) mi x1.toNatClampNeg 0 ru 6 = u2 (u2 (fillF K1 ww 100 (-1)) mo 0 0) mi x1.toNatClampNeg 0 mo 1
        rw [r6, u2_ne (ne_role km d6.2.1 (by decide)), u2_nk (by decide), m1, e1]
      · exact (alI rf 32 c1.2.1 (by decide) (by decide) (by decide) (by decide) (by decide) (by decide) (by decide)).trans (e2.trans (alI mf 64 d1.2.1 (by decide) (by decide) (by decide) (by decide) (by decide) (by decide) (by decide)).symm)
      · exact (alI rt 33 c2.2.1 (by decide) (by decide) (by decide) (by decide) (by decide) (by decide) (by decide)).trans (e3.trans (alI mt 65 d2.2.1 (by decide) (by decide) (by decide) (by decide) (by decide) (by decide) (by decide)).symm)
      · exact (alI rc 34 c3.2.1 (by decide) (by decide) (by decide) (by decide) (by decide) (by decide) (by decide)).trans (e4.trans (alI mc 66 d3.2.1 (by decide) (by decide) (by decide) (by decide) (by decide) (by decide) (by decide)).symm)
      · show u2 (u2 (fillF K1 ww 100 (-1)) mo 0 0) mi x1.toNatClampNeg 0 rth = u2 (u2 (fillF K1 ww 100 (-1)) mo 0 0) mi x1.toNatClampNeg 0 mi
        rw [all rth 37 c6.2.1 (by decide) (by decide) (by decide) (by decide) (by decide), kt, u2_up, u2_ne (ne_role d6.2.1 km (by decide)), fo mi 69 d6.2.1 (by decide) (by decide) (by decide), ko mi 69 d6.2.1 (by decide) (by decide), e5]
      · exact (alI rm 36 c5.2.1 (by decide) (by decide) (by decide) (by decide) (by decide) (by decide) (by decide)).trans (e6.trans (alI mp 68 d5.2.1 (by decide) (by decide) (by decide) (by decide) (by decide) (by decide) (by decide)).symm)
      · intro z hz
        show u2 (u2 (fillF K1 ww 100 (-1)) mo 0 0) mi x1.toNatClampNeg 0 rb z = u2 (u2 (fillF K1 ww 100 (-1)) mo 0 0) mi x1.toNatClampNeg 0 mb z
        rw [alI rb 35 c4.2.1 (by decide) (by decide) (by decide) (by decide) (by decide) (by decide) (by decide), alI mb 67 d4.2.1 (by decide) (by decide) (by decide) (by decide) (by decide) (by decide) (by decide)]
        exact e7 z hz
      · show u2 (u2 (fillF K1 ww 100 (-1)) mo 0 0) mi x1.toNatClampNeg 0 rb 8 = 10
        rw [alI rb 35 c4.2.1 (by decide) (by decide) (by decide) (by decide) (by decide) (by decide) (by decide)]
        exact e8
      · show 12 ≤ (u2 (u2 (fillF K1 ww 100 (-1)) mo 0 0) mi x1.toNatClampNeg 0 ru 6).toInt
        rw [r6]; exact e9
      · exact (congrFun (alI rt 33 c2.2.1 (by decide) (by decide) (by decide) (by decide) (by decide) (by decide) (by decide)) 7).trans e10
      · exact (congrFun (alI rt 33 c2.2.1 (by decide) (by decide) (by decide) (by decide) (by decide) (by decide) (by decide)) 9).trans e11
      · have z : ∀ c r, C c = r → r ≠ 69 → r ≠ 11 → r ≠ 45 → u2 (u2 (fillF K1 ww 100 (-1)) mo 0 0) mi x1.toNatClampNeg 0 c = K1 c := fun c r h q1 q2 q3 => by rw [no c r h q1 q2, fp c r h q3]
        exact f2.of (congrFun (z ru 6 c0.2.1 (by decide) (by decide) (by decide)) 6) (z rf 32 c1.2.1 (by decide) (by decide) (by decide)) (z rt 33 c2.2.1 (by decide) (by decide) (by decide)) (z rc 34 c3.2.1 (by decide) (by decide) (by decide)) (z rth 37 c6.2.1 (by decide) (by decide) (by decide)) (z w 38 c7.2.1 (by decide) (by decide) (by decide)) (z fi 39 c8.2.1 (by decide) (by decide) (by decide))
  · rw [if_neg ok, if_neg (show ¬ ((0 : Int32) = 1) by decide)] at fa
    (obtain ⟨qa1, qa2, qa3, qa4⟩ := pairE fa; subst qa1 qa2 qa3 qa4)
    rw [u2_nk (show (1 : Nat) ≠ 0 by decide), ← e1, s9, if_neg ok] at fb
    (obtain ⟨qa1, qa2, qa3, qa4⟩ := pairE fb; subst qa1 qa2 qa3 qa4)
    exact ⟨RR.sm (ms := [11 * 64]) rel0 oR (Sm.stI Sm.rf km (by decide)) rfl, rfl⟩
