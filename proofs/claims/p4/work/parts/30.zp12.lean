theorem mmeasP {L : List Nat} {C : Nat → Nat} {mo mf mt mc mi : Nat} {I : hI} {J : hJ} {R : hR} (oI : OkI L C I) (oR : OkR L C R) (mm : mo ∈ L) (km : C mo = 11) (d1 : At L C R mo 2 mf 64) (d2 : At L C R mo 3 mt 65) (d3 : At L C R mo 4 mc 66) (d6 : At L C R mo 7 mi 69) :
    ∃ I1 tc tm tr, At L C R mo 32 tc 85 ∧ At L C R mo 33 tm 86 ∧ At L C R mo 34 tr 87 ∧ F_X11_measure mo I J R = (I1, J, R) ∧ (∀ c, C c ≠ 85 → C c ≠ 86 → C c ≠ 87 → C c ≠ 88 → C c ≠ 89 → I1 c = I c) ∧ ∀ a, a < 7 → TbM I1 tc tm tr a (sr I mf) (sr I mt) (cs I mc) (pm I mo mi) := by
  obtain ⟨tc, m1, v1, k1⟩ := rf_11_32 oR mm km
  obtain ⟨tm, m2, v2, k2⟩ := rf_11_33 oR mm km
  obtain ⟨tr, m3, v3, k3⟩ := rf_11_34 oR mm km
  obtain ⟨sc, m4, v4, k4⟩ := rf_11_35 oR mm km
  obtain ⟨sR, m5, v5, k5⟩ := rf_11_36 oR mm km
  have f := d1.2.1
  have t := d2.2.1
  have c := d3.2.1
  have i := d6.2.1
  have hdg : ∀ q, q < 294 → 0 ≤ (I sR q).toInt ∧ (I sR q).toInt < 32 := fun q hq => by
    have := oI sR m5 q (by rw [k5]; exact hq)
    rw [k5] at this
    exact ⟨this.1, Int.lt_of_le_of_lt this.2.1 (by show (31 : Int) < 32; decide)⟩
  obtain ⟨I1, e1, e2, e3⟩ := mmeas_l (J := J) (I0 := I) v1 v2 v3 v4 v5 d1.2.2 d2.2.2 d3.2.2 d6.2.2 (ne_role km k4 (by decide)) (ne_role km k5 (by decide)) (ne_role f k4 (by decide)) (ne_role f k5 (by decide)) (ne_role t k4 (by decide)) (ne_role t k5 (by decide)) (ne_role c k4 (by decide)) (ne_role c k5 (by decide)) (ne_role i k4 (by decide)) (ne_role i k5 (by decide)) (ne_role k4 k5 (by decide)) (ne_role k5 k3 (by decide)) (ne_role k5 k1 (by decide)) (ne_role k5 k2 (by decide)) (ne_role k3 k1 (by decide)) (ne_role k3 k2 (by decide)) (ne_role k1 k2 (by decide)) (ne_role k4 k1 (by decide)) (ne_role k4 k2 (by decide)) (ne_role k4 k3 (by decide))
    (ne_role km k1 (by decide)) (ne_role km k2 (by decide)) (ne_role km k3 (by decide)) (ne_role f k1 (by decide)) (ne_role f k2 (by decide)) (ne_role f k3 (by decide)) (ne_role t k1 (by decide)) (ne_role t k2 (by decide)) (ne_role t k3 (by decide)) (ne_role c k1 (by decide)) (ne_role c k2 (by decide)) (ne_role c k3 (by decide)) (ne_role i k1 (by decide)) (ne_role i k2 (by decide)) (ne_role i k3 (by decide)) (RlOM oI ⟨mm, km⟩ ⟨d1.1, f⟩ ⟨d2.1, t⟩ ⟨d3.1, c⟩) 8 0 0 I (by decide) (by omega) (by omega) (fun _ _ _ _ _ _ => rfl) hdg (fun a ha => by omega)
  exact ⟨I1, tc, tm, tr, ⟨m1, k1, v1⟩, ⟨m2, k2, v2⟩, ⟨m3, k3, v3⟩, e1, fun c h1 h2 h3 h4 h5 => e2 c (fun e => h4 (by rw [e, k4])) (fun e => h5 (by rw [e, k5])) (fun e => h1 (by rw [e, k1])) (fun e => h2 (by rw [e, k2])) (fun e => h3 (by rw [e, k3])), e3⟩
theorem st_turning {L : List Nat} {C : Nat → Nat} {x mo : Nat} {I I2 : hI} {J J2 : hJ} {R R2 : hR} (uq : Uq L C) (mx : x ∈ L) (kx : C x = 10) (mm : mo ∈ L) (km : C mo = 11) (oI : OkI L C I) (oR : OkR L C R) (ow0 : Ow L C R) (rel : RR L C x mo (I, J, R)) {x1 : Int32} {x2 : Int32} {x3 : Int32} {ra rb : Int32} (fa : F_X10_turning x x1 x2 x3 I J R = ra) (oI1 : OkI L C I) (oR1 : OkR L C R) (fb : F_X11_turning mo x1 x2 x3 I J R = (rb, (I2, J2, R2))) (sb : Sm C ms_X11_turning (I, J, R) (I2, J2, R2)) (oI2 : OkI L C I2) (oR2 : OkR L C R2) : RR L C x mo (I2, J2, R2) ∧ ra = rb := by
  refine ⟨RR.sm rel oR2 sb (by decide), ?_⟩
  obtain ⟨-, -, ru, rf, rt, rc, rb', rm, rth, w, fi, mf, mt, mc, mb, mp, mi, c, e, t⟩ := rel
  have c : CelR L C x mo R ru rf rt rc rb' rm rth w fi mf mt mc mb mp mi := c
  have e : EqR I mo ru rf rt rc rb' rm rth mf mt mc mb mp mi := e
  have t : Tb I ru rf rt rc rth w fi := t
  obtain ⟨c0, c1, c2, c3, c4, c5, c6, c7, c8, d1, d2, d3, d4, d5, d6⟩ := c
  obtain ⟨e1, e2, e3, e4, e5, e6, e7, e8, e9, e10, e11⟩ := e
  have fb1 : (F_X11_turning mo x1 x2 x3 I J R).1 = rb := by rw [fb]
  rw [← fa, ← fb1]
  clear fa fb fb1 sb oI2 oR2
  simp only [F_X10_turning, F_X11_turning, F_X11_turning_122, F_X11_turning_33, nm, nmW, isS, inM, ite1, Int32.toInt_toInt64, cJ0, cJ6, c0.2.2, Option.getD_some, apply_ite Prod.fst]
  by_cases h1 : 0 ≤ x1.toInt ∧ x1.toInt ≤ 6
  · by_cases h2 : 0 ≤ x2.toInt ∧ x2.toInt ≤ 6
    · by_cases h3 : (0 : Int32) ≤ x3
      · simp only [if_pos h1, if_pos h2, if_pos h3]
        have h3' := Rg_le h3
        rw [cI0] at h3'
        have hr := RlO (R := R) (p := 0) (i := 0) (j := 0) (k := 0) oI ⟨c0.1, c0.2.1⟩ ⟨c1.1, c1.2.1⟩ ⟨c2.1, c2.2.1⟩ ⟨c3.1, c3.2.1⟩
        obtain ⟨K, tc, tm, tr, t1, t2, t3, m1, m2, m3⟩ := mmeasP (I := u2 I mo 0 0) (J := J) (wf_11_0 oI km (Rg_any _)) oR mm km d1 d2 d3 d6
        rw [m1]
        obtain ⟨a, ha⟩ : ∃ a : Nat, x1.toInt = a := ⟨x1.toInt.toNat, by omega⟩
        obtain ⟨b, hb⟩ : ∃ b : Nat, x2.toInt = b := ⟨x2.toInt.toNat, by omega⟩
        have ha7 : a < 7 := by omega
        have hb7 : b < 7 := by omega
        have ne : ∀ z r, C z = r → r ≠ 11 → u2 I mo 0 0 z = I z := fun z r h q => u2_ne (ne_role h km q)
        have m3a := m3 a ha7
        have eqs : sr (u2 I mo 0 0) mf = sr I rf ∧ sr (u2 I mo 0 0) mt = sr I rt ∧ cs (u2 I mo 0 0) mc = cs I rc ∧ pm (u2 I mo 0 0) mo mi = pe I ru rth := by
          unfold sr cs pm pe
          rw [ne mf 64 d1.2.1 (by decide), ne mt 65 d2.2.1 (by decide), ne mc 66 d3.2.1 (by decide), ne mi 69 d6.2.1 (by decide), u2_nk (show (1 : Nat) ≠ 0 by decide), e1, e2, e3, e4, e5]
          exact ⟨rfl, rfl, rfl, rfl⟩
        rw [eqs.1, eqs.2.1, eqs.2.2.1, eqs.2.2.2] at m3a
        have i1 : (7 * x1 + x2).toNatClampNeg = 7 * a + b := clamp_toInt (by rw [iadd (imul (x := 7) cI7 ha (by omega) (by omega)) hb (by omega) (by omega)]; omega)
        have i2 : (7 * x1 + x2).toInt = ((7 * a + b : Nat) : Int) := by rw [iadd (imul (x := 7) cI7 ha (by omega) (by omega)) hb (by omega) (by omega)]; omega
        simp only [t1.2.2, t2.2.2, t3.2.2, Option.getD_some, i1]
        have w0 := (t.1.1 (a * 7 + b) (by omega)).1
        have cb := costB (I := I) (J := J) (x1 := x1) (x2 := x2) c7.2.2 ha hb ha7 hb7 w0
        have sb := stepsB (I := I) (J := J) (x1 := x1) (x2 := x2) c7.2.2 ha hb ha7 hb7 w0
        have cM : Int32.toInt 1000000 = 1000000 := by decide
        rcases turn_eq (mo := mo) (mf := mf) (mt := mt) (mc := mc) (mi := mi) hr t m3a ha7 hb7 with ⟨q1, q2, q3, q4, q5, q6, q7⟩ | ⟨q1, q2⟩
        · rw [if_pos q1] at cb
          have cb2 : F_X6_costBetween ru x1 x2 I J R = K tc (7 * a + b) := Int32.toInt_inj.mp (by rw [cb]; omega)
          have sb2 : F_X6_stepsBetween ru x1 x2 I J R = K tm (7 * a + b) := Int32.toInt_inj.mp (by rw [sb]; omega)
          rw [if_pos (show K tc (7 * a + b) < 1000000 by rw [ilt, cM]; exact q2), cb2, sb2]
          by_cases z0 : x3 = 0
          · rw [if_pos z0, if_pos z0]
          · rw [if_neg z0, if_neg z0, if_neg (show ¬ K tc (7 * a + b) = -1 by rw [ieq, cIm1]; omega)]
            by_cases z1 : x3 = 1
            · rw [if_pos z1, if_pos z1]
            · rw [if_neg z1, if_neg z1]
              have y0 : x3.toInt ≠ 0 := fun h => z0 (eq0.mpr h)
              have y1 : x3.toInt ≠ 1 := fun h => z1 (by rw [ieq, cI1]; exact h)
              have x2' : (x3 - 2).toInt = ((x3.toInt.toNat - 2 : Nat) : Int) := by rw [isub rfl cI2 (by omega) (by have := (Rg_any x3).2; omega)]; omega
              have sa := stepA (I := I) (J := J) (x1 := x1) (x2 := x2) (x3 := x3 - 2) c2.2.2 c8.2.2 hr t ha hb x2' ha7 hb7 q1
              rw [← q6, sfx_get] at sa
              have n1 := nat_of q4.1
              by_cases z2 : K tm (7 * a + b) ≤ x3 - 2
              · have l := Rg_le z2
                rw [if_pos z2]
                rw [if_neg (by omega)] at sa
                exact Int32.toInt_inj.mp (by rw [sa]; decide)
              · have l := Rg_nle z2
                rw [if_neg z2]
                rw [if_pos (by omega)] at sa
                have i3 : (6 * (7 * x1 + x2) + x3 - 2).toNatClampNeg = 6 * (7 * a + b) + (x3.toInt.toNat - 2) := clamp_toInt (by rw [isub (iadd (imul (x := 6) cI6 i2 (by omega) (by omega)) (rfl : x3.toInt = _) (by omega) (by omega)) cI2 (by omega) (by omega)]; omega)
                rw [i3]
                refine Int32.toInt_inj.mp ?_
                rw [sa]
                show ((K tr (6 * (7 * a + b) + (0 + (x3.toInt.toNat - 2)))).toNatClampNeg : Int) = _
                rw [Nat.zero_add]
                exact nat_of (q7 _ (by omega))
        · rw [if_neg (by omega)] at cb
          have cb2 : F_X6_costBetween ru x1 x2 I J R = -1 := Int32.toInt_inj.mp (by rw [cb]; decide)
          rw [if_neg (show ¬ K tc (7 * a + b) < 1000000 by rw [ilt, cM]; omega), cb2]
          by_cases z0 : x3 = 0
          · rw [if_pos z0]
          · rw [if_neg z0, if_pos rfl]
      · simp only [if_pos h1, if_pos h2, if_neg h3]
    · simp only [if_pos h1, if_neg h2]
  · simp only [if_neg h1]
