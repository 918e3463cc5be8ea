set_option maxHeartbeats 4000000 in
theorem turnV {L : List Nat} {C : Nat → Nat} {x mo : Nat} {I I1 I2 : hI} {J J1 J2 : hJ} {R R1 R2 : hR} (uq : Uq L C) (mx : x ∈ L) (kx : C x = 10) (mm : mo ∈ L) (km : C mo = 11) (oI : OkI L C I) (oR : OkR L C R) (ow0 : Ow L C R) (rel : RR L C x mo (I, J, R)) {x1 : Int32} {x2 : Int32} {x3 : Int64} {ra rb : Int32} (fa : F_X10_turn x x1 x2 x3 I J R = (ra, (I1, J1, R1))) (sa : Sm C ms_X10_turn (I, J, R) (I1, J1, R1)) (oI1 : OkI L C I1) (oR1 : OkR L C R1) (fb : F_X11_turn mo x1 x2 x3 I1 J1 R1 = (rb, (I2, J2, R2))) (sb : Sm C ms_X11_turn (I1, J1, R1) (I2, J2, R2)) (oI2 : OkI L C I2) (oR2 : OkR L C R2) {la : Nat} (vla : At L C R x 7 la 4) : ra = rb ∧ ((J1 la 0 = J la 0 ∧ J2 mo 25 = J1 mo 25) ∨ ∃ v, J1 la 0 = v ∧ J2 mo 25 = v) := by
  obtain ⟨-, -, ru, rf, rt, rc, rb', rm, rth, w, fi, mf, mt, mc, mb, mp, mi, c, e, t⟩ := rel
  have c : CelR L C x mo R ru rf rt rc rb' rm rth w fi mf mt mc mb mp mi := c
  have e : EqR I mo ru rf rt rc rb' rm rth mf mt mc mb mp mi := e
  have t : Tb I ru rf rt rc rth w fi := t
  obtain ⟨c0, c1, c2, c3, c4, c5, c6, c7, c8, d1, d2, d3, d4, d5, d6⟩ := c
  obtain ⟨e1, e2, e3, e4, e5, e6, e7, e8, e9, e10, e11⟩ := e
  have d1 : At L C R1 mo 2 mf 64 := d1.sm sa km (by decide)
  have d2 : At L C R1 mo 3 mt 65 := d2.sm sa km (by decide)
  have d3 : At L C R1 mo 4 mc 66 := d3.sm sa km (by decide)
  have d4 : At L C R1 mo 5 mb 67 := d4.sm sa km (by decide)
  have d5 : At L C R1 mo 6 mp 68 := d5.sm sa km (by decide)
  have d6 : At L C R1 mo 7 mi 69 := d6.sm sa km (by decide)
  have k1 : I1 mf = I mf := smA sa d1.2.1 (by decide) (by decide)
  have k2 : I1 mt = I mt := smA sa d2.2.1 (by decide) (by decide)
  have k3 : I1 mc = I mc := smA sa d3.2.1 (by decide) (by decide)
  have k4 : I1 mb = I mb := smA sa d4.2.1 (by decide) (by decide)
  have k5 : I1 mp = I mp := smA sa d5.2.1 (by decide) (by decide)
  have k6 : I1 mi = I mi := smA sa d6.2.1 (by decide) (by decide)
  have k0 : I1 mo 1 = I mo 1 := smO (k := 1) sa km (by decide)
  have eR : R1 = R := by
    have e : (F_X10_turn x x1 x2 x3 I J R).2.2.2 = R := by
      simp only [F_X10_turn, F_X4_noteFailure, nm, nmU, nmW]
      repeat' split
      all_goals rfl
    rw [fa] at e
    exact e
  subst eR
  simp only [F_X10_turn, F_X4_noteFailure, nm, nmW, nmU, isS, ite1, c0.2.2, vla.2.2, Option.getD_some, isofE] at fa
  simp only [F_X11_turn, F_X11_turn_29, F_X11_fail, nm, nmW, nmU, inM, ite1, Int32.toInt_toInt64, cJ0, cJ6] at fb
  have kla := vla.2.1
  by_cases h1 : 0 ≤ x1.toInt ∧ x1.toInt ≤ 6
  · by_cases h2 : 0 ≤ x2.toInt ∧ x2.toInt ≤ 6
    · simp only [if_pos h1, if_pos h2] at fa fb
      have hr := RlO (R := R1) (p := 0) (i := 0) (j := 0) (k := 0) oI ⟨c0.1, c0.2.1⟩ ⟨c1.1, c1.2.1⟩ ⟨c2.1, c2.2.1⟩ ⟨c3.1, c3.2.1⟩
      obtain ⟨K, tc, tm, tr, t1, t2, t3, m1, m2, m3⟩ := mmeasP (I := u2 I1 mo 0 0) (J := J1) (wf_11_0 oI1 km (Rg_any _)) oR1 mm km d1 d2 d3 d6
      rw [m1] at fb
      obtain ⟨a, ha⟩ : ∃ a : Nat, x1.toInt = a := ⟨x1.toInt.toNat, by omega⟩
      obtain ⟨b, hb⟩ : ∃ b : Nat, x2.toInt = b := ⟨x2.toInt.toNat, by omega⟩
      have ha7 : a < 7 := by omega
      have hb7 : b < 7 := by omega
      have ne : ∀ z r, C z = r → r ≠ 11 → u2 I1 mo 0 0 z = I1 z := fun z r h q => u2_ne (ne_role h km q)
      have m3a := m3 a ha7
      have eqs : sr (u2 I1 mo 0 0) mf = sr I rf ∧ sr (u2 I1 mo 0 0) mt = sr I rt ∧ cs (u2 I1 mo 0 0) mc = cs I rc ∧ pm (u2 I1 mo 0 0) mo mi = pe I ru rth := by
        unfold sr cs pm pe
        rw [ne mf 64 d1.2.1 (by decide), ne mt 65 d2.2.1 (by decide), ne mc 66 d3.2.1 (by decide), ne mi 69 d6.2.1 (by decide), u2_nk (show (1 : Nat) ≠ 0 by decide), k1, k2, k3, k6, k0, e1, e2, e3, e4, e5]
        exact ⟨rfl, rfl, rfl, rfl⟩
      rw [eqs.1, eqs.2.1, eqs.2.2.1, eqs.2.2.2] at m3a
      have i1 : (7 * x1 + x2).toNatClampNeg = 7 * a + b := clamp_toInt (by rw [iadd (imul (x := 7) cI7 ha (by omega) (by omega)) hb (by omega) (by omega)]; omega)
      simp only [t1.2.2, Option.getD_some, i1] at fb
      have w0 := (t.1.1 (a * 7 + b) (by omega)).1
      have cb := costB (I := I) (J := J) (x1 := x1) (x2 := x2) c7.2.2 ha hb ha7 hb7 w0
      have cM : Int32.toInt 1000000 = 1000000 := by decide
      rcases turn_eq (mo := mo) (mf := mf) (mt := mt) (mc := mc) (mi := mi) hr t m3a ha7 hb7 with ⟨q1, q2, q3, q4, q5, q6, q7⟩ | ⟨q1, q2⟩
      · rw [if_pos q1] at cb
        have cb2 : F_X6_costBetween ru x1 x2 I J R1 = K tc (7 * a + b) := Int32.toInt_inj.mp (by rw [cb]; omega)
        rw [cb2, if_neg (show ¬ K tc (7 * a + b) = -1 by rw [ieq, cIm1]; omega)] at fa
        rw [if_pos (show K tc (7 * a + b) < 1000000 by rw [ilt, cM]; exact q2)] at fb
        rcases isof01 (s := x1) (v := x3) h1 with g | g
        · rw [g, if_pos (show (0 : Int32) = 0 from rfl)] at fa fb
          obtain ⟨qa1, qa2, qa3, -⟩ := pairE fa
          obtain ⟨qb1, qb2, qb3, -⟩ := pairE fb
          exact ⟨qa1.symm.trans qb1, Or.inl ⟨by rw [← qa3], by rw [← qb3]⟩⟩
        · rw [g, if_neg (show ¬ (1 : Int32) = 0 by decide)] at fa fb
          have hto : ∀ z, z < 32 → 0 ≤ (I rt z).toInt ∧ (I rt z).toInt ≤ 6 := fun z hz => (hr.2 z hz).2.1
          have hby : ∀ z, z < 32 → -1000 ≤ (I rb' z).toInt ∧ (I rb' z).toInt ≤ 1000 := fun z hz => by
            have q := oI rb' c4.1 z (by rw [c4.2.1]; exact hz)
            rw [c4.2.1] at q
            exact ⟨q.1, q.2.1⟩
          have hmo : ∀ z, z < 32 → -1000 ≤ (I rm z).toInt ∧ (I rm z).toInt ≤ 1000 := fun z hz => by
            have q := oI rm c5.1 z (by rw [c5.2.1]; exact hz)
            rw [c5.2.1] at q
            exact ⟨q.1, q.2.1⟩
          have hbm : ∀ z, z < 32 → -1000 ≤ (I mb z).toInt ∧ (I mb z).toInt ≤ 1000 := fun z hz => by
            have q := oI mb d4.1 z (by rw [d4.2.1]; exact hz)
            rw [d4.2.1] at q
            exact ⟨q.1, q.2.1⟩
          have kr := c0.2.1
          obtain ⟨Ia, Ja, ja1, ja2, ca⟩ := carryE (J := J) (x3 := x3) c2.2.2 c4.2.2 c5.2.2 c8.2.2 (ne_role c2.2.1 kr (by decide)) (ne_role c4.2.1 kr (by decide)) (ne_role c5.2.1 kr (by decide)) (ne_role c8.2.1 kr (by decide)) hr t hto hby hmo e10 e11 ha hb ha7 hb7 q1
          have km3 : ∀ z r, C z = r → r ≠ 11 → r ≠ 85 → r ≠ 86 → r ≠ 87 → r ≠ 88 → r ≠ 89 → K z = I1 z := fun z r h z0 z1 z2 z3 z4 z5 => by rw [m2 z (by rw [h]; exact z1) (by rw [h]; exact z2) (by rw [h]; exact z3) (by rw [h]; exact z4) (by rw [h]; exact z5), ne z r h z0]
          have kt : K mt = I rt := by rw [km3 mt 65 d2.2.1 (by decide) (by decide) (by decide) (by decide) (by decide) (by decide), k2, e3]
          have kb : K mb = I mb := by rw [km3 mb 67 d4.2.1 (by decide) (by decide) (by decide) (by decide) (by decide) (by decide), k4]
          have kp : K mp = I rm := by rw [km3 mp 68 d5.2.1 (by decide) (by decide) (by decide) (by decide) (by decide) (by decide), k5, e6]
          have n1 := nat_of q4.1
          have gm := gry_mem hr t ha7 hb7 q1
          have ti := turnItE (I := K) (J := J1) (x4 := 1) (x3 := x3) d2.2.2 d4.2.2 d5.2.2 t2.2.2 t3.2.2 (by rw [kt]; exact hto) (by rw [kb]; exact hbm) (by rw [kp]; exact hmo) ha hb ha7 hb7 n1.symm (by omega) (fun k hk => ⟨q7 k hk, gm _ (by rw [← q6]; exact List.mem_of_getElem? (by rw [sfx_get, if_pos hk, Nat.zero_add]))⟩)
          rw [kt, kb, kp, q6] at ti
          have hbb : (fun z => if z = 8 then 10 else I mb z) = I rb' := by
            funext z
            by_cases z8 : z = 8
            · rw [if_pos z8, z8, e8]
            · rw [if_neg z8, e7 z z8]
          rw [hbb] at ti
          obtain ⟨Jb, jb1, ci⟩ := ti
          have jl : Ja la 0 = J la 0 := ja2 la 0 (fun q => ne_role kla kr (by decide) q.1)
          have jm : Jb mo 25 = J1 mo 25 := jb1 mo 25 (fun q => by have := q.2; omega)
          rcases ca with ⟨z, z1, z2, z3⟩ | ⟨z, z1, z2, -⟩
          · rcases ci with ⟨y, y1, y2, y3⟩ | ⟨y, y1, xe, -, y2⟩
            · rw [z2] at fa
              rw [y2] at fb
              dsimp only at fa fb
              rw [if_neg (show ¬ (1 : Int32) = 0 by decide)] at fa fb
              obtain ⟨qa1, qa2, qa3, -⟩ := pairE fa
              obtain ⟨qb1, qb2, qb3, -⟩ := pairE fb
              rw [z1] at y1
              have ezy : z = y := by cases y1; rfl
              exact ⟨qa1.symm.trans qb1, Or.inr ⟨z, by rw [← qa3, u2_at, z3], by rw [← qb3, u2_at, y3, ezy]⟩⟩
            · rw [z1] at y1; cases y1
          · rcases ci with ⟨y, y1, y2, -⟩ | ⟨y, y1, xe, -, y2⟩
            · rw [z1] at y1; cases y1
            · rw [z2] at fa
              rw [y2] at fb
              dsimp only at fa fb
              rw [if_pos (show (0 : Int32) = 0 from rfl)] at fa fb
              obtain ⟨qa1, qa2, qa3, -⟩ := pairE fa
              obtain ⟨qb1, qb2, qb3, -⟩ := pairE fb
              exact ⟨qa1.symm.trans qb1, Or.inl ⟨by rw [← qa3]; exact jl, by rw [← qb3]; exact jm⟩⟩
      · rw [if_neg (by omega)] at cb
        have cb2 : F_X6_costBetween ru x1 x2 I J R1 = -1 := Int32.toInt_inj.mp (by rw [cb]; decide)
        rw [cb2, if_pos rfl] at fa
        rw [if_neg (show ¬ K tc (7 * a + b) < 1000000 by rw [ilt, cM]; omega)] at fb
        obtain ⟨qa1, qa2, qa3, -⟩ := pairE fa
        obtain ⟨qb1, qb2, qb3, -⟩ := pairE fb
        exact ⟨qa1.symm.trans qb1, Or.inl ⟨by rw [← qa3], by rw [← qb3]⟩⟩
    · simp only [if_pos h1, if_neg h2] at fa fb
      obtain ⟨qa1, qa2, qa3, -⟩ := pairE fa
      obtain ⟨qb1, qb2, qb3, -⟩ := pairE fb
      exact ⟨qa1.symm.trans qb1, Or.inl ⟨by rw [← qa3], by rw [← qb3]⟩⟩
  · simp only [if_neg h1] at fa fb
    obtain ⟨qa1, qa2, qa3, -⟩ := pairE fa
    obtain ⟨qb1, qb2, qb3, -⟩ := pairE fb
    exact ⟨qa1.symm.trans qb1, Or.inl ⟨by rw [← qa3], by rw [← qb3]⟩⟩
