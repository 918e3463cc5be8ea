set_option maxHeartbeats 4000000 in
theorem h_call {L : List Nat} {C : Nat → Nat} {x mo : Nat} {I I1 I2 : hI} {J J1 J2 : hJ} {R R1 R2 : hR} (uq : Uq L C) (mx : x ∈ L) (kx : C x = 10) (mm : mo ∈ L) (km : C mo = 11) (oI : OkI L C I) (oR : OkR L C R) (ow0 : Ow L C R) (rel : RX L C x mo (I, J, R)) {x1 : Int32} {x2 : Int32} {x3 : Int32} {ra rb : Int32} (fa : F_X10_call x x1 x2 x3 I J R = (ra, (I1, J1, R1))) (sa : Sm C ms_X10_call (I, J, R) (I1, J1, R1)) (oI1 : OkI L C I1) (oR1 : OkR L C R1) (fb : F_X11_call mo x1 x2 x3 I1 J1 R1 = (rb, (I2, J2, R2))) (sb : Sm C ms_X11_call (I1, J1, R1) (I2, J2, R2)) (oI2 : OkI L C I2) (oR2 : OkR L C R2) : RX L C x mo (I2, J2, R2) ∧ ra = rb := by
  obtain ⟨rw0, rt0⟩ := rel
  have rw2 : RW L C x mo (I2, J2, R2) := RW.sm (RW.sm rw0 oI1 oR1 sa (by decide)) oI2 oR2 sb (by decide)
  obtain ⟨-, -, th, tcl, tfl, la, kc, kh, mc, mf, mh, c, e, a, b, ha, hb, hab⟩ := id rt0
  have c : CelT L C x mo R th tcl tfl la kc kh mc mf mh := c
  have e : EqT I J mo th tcl tfl la kh mc mf mh := e
  have c9 := c
  obtain ⟨c1, c2, c3, c4, c5, c6, c7, c8, c9'⟩ := c
  obtain ⟨e1, e2, e3, e4, e5, e6, e7⟩ := e
  have same : ∀ {r : Int32}, (r, (I, J, R)) = (ra, (I1, J1, R1)) → (r, (u2 I1 mo 0 0, J1, R1)) = (rb, (I2, J2, R2)) → RX L C x mo (I2, J2, R2) ∧ ra = rb := fun h1 h2 => by
    (obtain ⟨qa1, qa2, qa3, qa4⟩ := pairE h1; subst qa1 qa2 qa3 qa4)
    (obtain ⟨qa1, qa2, qa3, qa4⟩ := pairE h2; subst qa1 qa2 qa3 qa4)
    exact ⟨⟨rw2, RT.sm (ms := [11 * 64]) rt0 oR (Sm.stI Sm.rf km (by decide)) rfl⟩, rfl⟩
  have relF : RF L C x mo (I, J, R) := rw0.2.1
  obtain ⟨-, -, ru, rf, rt, rc, rb', rm, rth, w, f9, zf, zt, zc, zb, zp, zi, cr, er, tt⟩ := relF.1
  have cr : CelR L C x mo R ru rf rt rc rb' rm rth w f9 zf zt zc zb zp zi := cr
  have er : EqR I mo ru rf rt rc rb' rm rth zf zt zc zb zp zi := er
  have tt : Tb I ru rf rt rc rth w f9 := tt
  obtain ⟨r0, r1, r2, r3, r4, r5, r6, r7, r8, s1, s2, s3, s4, s5, s6⟩ := cr
  obtain ⟨q1, q2, q3, q4, q5, q6, q7, q8, q9, q10, q11⟩ := er
  obtain ⟨-, -, sh, m8, n9, y10, o11, e12, w13, f14, u15, t16, cel, she⟩ := relF.2.1
  have cel : CelM L C x mo R sh m8 n9 y10 o11 e12 w13 f14 u15 t16 := cel
  have she : ShEq I R sh m8 n9 y10 o11 e12 w13 f14 u15 t16 := she
  obtain ⟨-, -, co, ct, cvl, hc, hv, ⟨k0, k1, k2, k3, k4⟩, eC, eV⟩ := relF.2.2.2
  have k0 : At L C R x 2 co 2 := k0
  have k2 : At L C R co 1 cvl 42 := k2
  have k4 : At L C R mo 20 hv 81 := k4
  have eV : J cvl = J hv := eV
  obtain ⟨fi, t, p, sh', ru', w', al, pa, co', ct', cl⟩ := ClF.get oR mx kx
  obtain rfl : sh = sh' := Option.some.inj (cel.1.2.2.symm.trans cl.2.2.2.1.2.2)
  obtain rfl : ru = ru' := uq _ r0.1 _ cl.2.2.2.2.1.1 (r0.2.1.trans cl.2.2.2.2.1.2.1.symm) (by rw [r0.2.1]; rfl)
  obtain rfl : w = w' := Option.some.inj (r7.2.2.symm.trans cl.2.2.2.2.2.1.2.2)
  obtain rfl : co = co' := uq _ k0.1 _ cl.2.2.2.2.2.2.2.2.1.1 (k0.2.1.trans cl.2.2.2.2.2.2.2.2.1.2.1.symm) (by rw [k0.2.1]; rfl)
  have kkc := c5.2.1
  obtain ⟨fi', mfi', vfi', kfi'⟩ := rf_1_2 oR c5.1 kkc
  obtain rfl : fi = fi' := uq _ cl.1.1 _ mfi' (cl.1.2.1.trans kfi'.symm) (by rw [cl.1.2.1]; rfl)
  obtain ⟨ch, mch, vch, kch⟩ := rf_1_5 oR c5.1 kkc
  obtain ⟨kp, mkp, vkp, kkp⟩ := rf_1_6 oR c5.1 kkc
  obtain ⟨pl, mpl, vpl, kpl⟩ := rf_11_38 oR mm km
  obtain ⟨bp, mbp, vbp, kbp⟩ := rf_11_39 oR mm km
  obtain ⟨fp, mfp, vfp, kfp⟩ := rf_11_43 oR mm km
  obtain ⟨cl', mcl, vcl, kcl⟩ := rf_11_50 oR mm km
  obtain ⟨cp, mcp, vcp, kcp⟩ := rf_11_51 oR mm km
  obtain ⟨ma, mma, vma, kma⟩ := rf_11_52 oR mm km
  obtain ⟨mt, mmt, vmt, kmt⟩ := rf_11_53 oR mm km
  have w0 : ∀ q, q < 49 → 0 ≤ (I w q).toInt := fun q hq => (tt.1.1 q hq).1
  have hbb : (fun z => if z = 8 then 10 else I zb z) = I rb' := by
    funext z
    by_cases z8 : z = 8
    · rw [if_pos z8, z8, q8]
    · rw [if_neg z8, q7 z z8]
  have g8 := rf_8_2 oI c1.1 c1.2.1
  obtain ⟨ax4, m08, m09, m10, m11, m12, m13, m14, m15, m16⟩ := id cel
  have hm21 : I1 mo 21 = I mo 21 := smO (k := 21) sa km (by decide)
  have k21 : u2 I1 mo 0 0 mo 21 = I th 2 := by rw [u2_nk (by decide), hm21, e1]
  have hI8 : I1 m8 = I m8 := smA sa m08.2.1 (by decide) (by decide)
  have hm8 : u2 I1 mo 0 0 m8 = I m8 := by rw [u2_ne (ne_role m08.2.1 km (by decide)), hI8]
  have rm8 : R1 mo 8 = some m8 := (m08.sm sa km (by decide)).2.2
  have v5 : At L C R kc 5 ch 51 := ⟨mch, kch, vch⟩
  have v6 : At L C R kc 6 kp 52 := ⟨mkp, kkp, vkp⟩
  simp only [F_X10_call, nm, nmU, nmW, has8 g8.1, isW, ite1, cI0, cI9, c1.2.2, ax4.2.2, c5.2.2, Option.getD_some] at fa
  simp only [F_X11_call, nm, nmU, nmW] at fb
  rw [k21, in8 g8.1] at fb
  simp only [inM, ite1, Int32.toInt_toInt64, cJ0, cJ9] at fb
  by_cases h1 : 0 ≤ x1.toInt ∧ x1.toInt < (I th 2).toInt
  · rw [if_pos h1] at fa fb
    by_cases h2 : 0 ≤ x2.toInt ∧ x2.toInt ≤ 9
    · rw [if_pos h2] at fa fb
      have n2 := nat_of h2.1
      have e10 : (10 + x2).toNatClampNeg = 10 + x2.toNatClampNeg := tenN h2
      obtain ⟨b1, vb1, mb1, kb1⟩ := shE oR ax4.1 ax4.2.1 (show 10 + x2.toNatClampNeg < 20 by omega)
      have gz := rf_7_1 oI mb1 kb1
      have sz : I b1 1 = I m8 (10 + x2.toNatClampNeg) := (she _ (by omega) b1 vb1).1
      rw [hasM rm8 (by rw [hm8, e10, ← sz]; exact gz.1), hm8, e10, ← sz] at fb
      rw [e10, vb1] at fa
      simp only [Option.getD_some, hasC gz.1, ite1] at fa
      simp only [ite1] at fb
      by_cases h3 : 0 ≤ x3.toInt ∧ x3.toInt < (I b1 1).toInt
      · rw [if_pos h3] at fa fb
        have n3 := nat_of h3.1
        have n1 := nat_of h1.1
        have gcl := oI tcl c2.1 x1.toNatClampNeg (by rw [c2.2.1]; show _ < 20; have := g8.2; omega)
        rw [c2.2.1] at gcl
        have gcl : 0 ≤ (I tcl x1.toNatClampNeg).toInt ∧ (I tcl x1.toNatClampNeg).toInt ≤ 9 := ⟨gcl.1, gcl.2.1⟩
        have ncl := nat_of gcl.1
        have hj6 : x3.toNatClampNeg < 6 := by have := gz.2; omega
        obtain ⟨b1', ma1, f0, fs0, fac0, b2, b3, b4, b5, b6, b7, b8, b9, -⟩ := memF oR ax4.1 ax4.2.1 (show 10 + x2.toNatClampNeg < 20 by omega) hj6
        obtain rfl : b1 = b1' := Option.some.inj (vb1.symm.trans b2)
        obtain ⟨tg, htg⟩ : ∃ tg : Nat → Nat, tg = fun _ => (I tcl x1.toNatClampNeg).toNatClampNeg := ⟨_, rfl⟩
        obtain ⟨S, hS⟩ : ∃ S : Nat, S = 10 + x2.toNatClampNeg := ⟨_, rfl⟩
        obtain ⟨M, hMx⟩ : ∃ M : Nat, M = x3.toNatClampNeg := ⟨_, rfl⟩
        rw [← hS] at b2 b3 b9
        rw [← hMx] at b8 b9 hj6
        obtain ⟨n, hn0⟩ : ∃ n : Nat, n = 0 := ⟨_, rfl⟩
        have hn9 : n ≤ 9 := by omega
        have hL : LkC L C fi sh kc ch kp I J R tg S M n (u2 I kc 7 0) (u2 R ch 0 (some f0)) := by
          rw [hn0, ← b9]
          exact lk0C oR cl kkc v5 (by omega) hj6 (by rw [b3]; omega) (fun _ _ _ _ => rfl)
        rw [← hMx] at fa
        simp only [b6, b8, Option.getD_some, F_X1_begin, nm, c5.2.2, vch, show (0 : Int32).toNatClampNeg = 0 by decide] at fa
        have fa' : F_X10_finish x x1 (u2 I kc 7 0) J (u2 R ch 0 (some f0)) = (ra, (I1, J1, R1)) := fa
        have htgn : tg n = (I tcl x1.toNatClampNeg).toNatClampNeg := by rw [htg]
        have CD := finC uq mx kx mm km oI oR relF r0 r1 r2 r3 r4 r5 r6 r8 tt q10 q11 cl k0 k2 c9 ha hb hab vfi' v5 v6 hn9 hL h1 htgn
        rw [fa'] at CD
        have hR1 : ∀ z j, C z ≠ 51 → C z ≠ 1 → R1 z j = R z j := by
          rcases CD with ⟨-, Ic, z2, -⟩ | ⟨Ib, Rb, fac, at_, I1', J1', R1', o, ⟨z3, -⟩, -, -, -, z2, -, -, -, -, -, z8, -⟩
          · obtain ⟨-, -, -, qa4⟩ := pairE z2
            exact fun z j h1 _ => by rw [qa4]; exact hL.2.1 z j h1
          · obtain ⟨-, -, -, qa4⟩ := pairE z2
            exact fun z j h1 h2 => by rw [qa4, z8 z j (fun g => h2 (by rw [g.1]; exact kkc))]; exact z3.2.1 z j h1
        have hI1 : ∀ z r, C z = r → r ∉ exC → r ≠ 6 → r ≠ 4 → I1 z = I z := by
          rcases CD with ⟨-, Ic, z2, z3, -⟩ | ⟨Ib, Rb, fac, at_, I1', J1', R1', o, ⟨z3, -⟩, -, -, -, z2, z4, -⟩
          · obtain ⟨-, qa2, -, -⟩ := pairE z2
            exact fun z r hz hr _ _ => by rw [qa2]; exact z3 z r hz hr
          · obtain ⟨-, qa2, -, -⟩ := pairE z2
            exact fun z r hz hr h6 h4 => by
              rw [qa2]
              funext k
              rw [z4 z k (fun g => h6 (by rw [← hz, g.1]; exact r0.2.1)) (fun g => h4 (by rw [← hz, g.1]; exact c4.2.1)), z3.1 z r hz hr]
        have hRm : ∀ j, R1 mo j = R mo j := fun j => hR1 mo j (by rw [km]; decide) (by rw [km]; decide)
        have eMo : I1 mo = I mo := hI1 mo 11 km (by decide) (by decide) (by decide)
        have relF1 : RF L C x mo (I1, J1, R1) := RF.sm relF oR1 sa (by decide)
        obtain ⟨fi2, t2, p2, pl2, bp2, fp2, sh2, m82, y102, K, f0, f3, f6, i38, i39, i43, f4, f8, f10, hms, ⟨K8, K10, K94⟩, hsz, hfit⟩ := fxE (I := I1) (J := J1) (I1 := I1) (J1 := J1) uq mx kx mm km (It := I1) (fun _ _ _ _ => rfl) oI1 oR1 relF1 oI1 (fun _ _ _ _ => rfl)
        obtain rfl : fi = fi2 := Option.some.inj ((cl.1.2.2.symm.trans (hR1 x 3 (by rw [kx]; decide) (by rw [kx]; decide)).symm).trans f0.2.2)
        obtain rfl : t = t2 := Option.some.inj ((cl.2.1.2.2.symm.trans (hR1 fi 3 (by rw [cl.1.2.1]; decide) (by rw [cl.1.2.1]; decide)).symm).trans f3.2.2)
        obtain rfl : p = p2 := Option.some.inj ((cl.2.2.1.2.2.symm.trans (hR1 fi 6 (by rw [cl.1.2.1]; decide) (by rw [cl.1.2.1]; decide)).symm).trans f6.2.2)
        obtain rfl : sh = sh2 := Option.some.inj ((ax4.2.2.symm.trans (hR1 x 4 (by rw [kx]; decide) (by rw [kx]; decide)).symm).trans f4.2.2)
        obtain rfl : m8 = m82 := Option.some.inj ((m08.2.2.symm.trans (hRm 8).symm).trans f8.2.2)
        obtain rfl : pl = pl2 := Option.some.inj ((vpl.symm.trans (hRm 38).symm).trans i38.2.2)
        obtain rfl : bp = bp2 := Option.some.inj ((vbp.symm.trans (hRm 39).symm).trans i39.2.2)
        obtain rfl : fp = fp2 := Option.some.inj ((vfp.symm.trans (hRm 43).symm).trans i43.2.2)
        obtain ⟨K', tc, tm, tr, t1, t2, t3, m1, m2, m3⟩ := mmeasP (I := u2 I1 mo 0 0) (J := J1) (wf_11_0 oI1 km (Rg_any _)) oR1 mm km (show At L C R1 mo 2 zf 64 from ⟨s1.1, s1.2.1, (hRm 2).trans s1.2.2⟩) (show At L C R1 mo 3 zt 65 from ⟨s2.1, s2.2.1, (hRm 3).trans s2.2.2⟩) (show At L C R1 mo 4 zc 66 from ⟨s3.1, s3.2.1, (hRm 4).trans s3.2.2⟩) (show At L C R1 mo 7 zi 69 from ⟨s6.1, s6.2.1, (hRm 7).trans s6.2.2⟩)
        have eK : (K, J1, R1) = (K', J1, R1) := hms.symm.trans m1
        obtain rfl : K = K' := congrArg Prod.fst eK
        have ne : ∀ z r, C z = r → r ≠ 11 → u2 I1 mo 0 0 z = I1 z := fun z r h q => u2_ne (ne_role h km q)
        have hM : ∀ a, a < 7 → TbM K tc tm tr a (sr I rf) (sr I rt) (cs I rc) (pe I ru rth) := fun a ha7 => by
          have m3a := m3 a ha7
          have eqs : sr (u2 I1 mo 0 0) zf = sr I rf ∧ sr (u2 I1 mo 0 0) zt = sr I rt ∧ cs (u2 I1 mo 0 0) zc = cs I rc ∧ pm (u2 I1 mo 0 0) mo zi = pe I ru rth := by
            unfold sr cs pm pe
            rw [ne zf 64 s1.2.1 (by decide), ne zt 65 s2.2.1 (by decide), ne zc 66 s3.2.1 (by decide), ne zi 69 s6.2.1 (by decide), u2_nk (show (1 : Nat) ≠ 0 by decide), hI1 zf 64 s1.2.1 (by decide) (by decide) (by decide), hI1 zt 65 s2.2.1 (by decide) (by decide) (by decide), hI1 zc 66 s3.2.1 (by decide) (by decide) (by decide), hI1 zi 69 s6.2.1 (by decide) (by decide) (by decide), eMo, q1, q2, q3, q4, q5]
            exact ⟨rfl, rfl, rfl, rfl⟩
          rw [eqs.1, eqs.2.1, eqs.2.2.1, eqs.2.2.2] at m3a
          exact m3a
        have hKf : ∀ z r, C z = r → r ∉ exK → r ≠ 6 → r ≠ 4 → K z = I z := fun z r hz hr h6 h4 => by
          have nq : ∀ r', r' ∈ exK → C z ≠ r' := fun r' h' e => hr (by rw [← hz, e]; exact h')
          rw [m2 z (nq 85 (by decide)) (nq 86 (by decide)) (nq 87 (by decide)) (nq 88 (by decide)) (nq 89 (by decide)), ne z r hz (fun e => hr (by rw [e]; decide)), hI1 z r hz (fun q => hr (exCK r q)) h6 h4]
        have hKm : ∀ j, j ≠ 0 → K mo j = I mo j := fun j hj => by rw [m2 mo (by rw [km]; decide) (by rw [km]; decide) (by rw [km]; decide) (by rw [km]; decide) (by rw [km]; decide), u2_nk hj, eMo]
        have bk : ∀ {k b r : Nat}, At L C R1 mo k b r → At L C R mo k b r := fun h => ⟨h.1, h.2.1, (hRm _).symm.trans h.2.2⟩
        have hoc := oC_sm oI oR kx cl sa (by decide)
        have h5 : ∀ z, C z = 5 → I1 z = I z := fun z h => hI1 z 5 h (by decide) (by decide) (by decide)
        have h7 : ∀ z, C z = 7 → I1 z = I z := fun z h => hI1 z 7 h (by decide) (by decide) (by decide)
        have i50 : At L C R1 mo 50 cl' 97 := ⟨mcl, kcl, (hRm 50).trans vcl⟩
        have i51 : At L C R1 mo 51 cp 98 := ⟨mcp, kcp, (hRm 51).trans vcp⟩
        have eMc : I1 mc = I mc := hI1 mc 82 c7.2.1 (by decide) (by decide) (by decide)
        have kMc : K mc = I tcl := by rw [hKf mc 82 c7.2.1 (by decide) (by decide) (by decide), e2]
        have eF : (6 * (10 + x2) + x3).toInt = ((6 * S + M : Nat) : Int) := by
          have gz2 := gz.2
          rw [iadd (imul (x := 6) cI6 (ten h2) (by omega) (by omega)) n3.symm (by omega) (by omega)]
          omega
        simp only [hms, i50.2.2, (hRm 22).trans c7.2.2, Option.getD_some, show (0 : Int32).toNatClampNeg = 0 by decide] at fb
        obtain ⟨Ka, hKa0⟩ : ∃ Ka : hI, Ka = u2 (u2 K cl' 0 (6 * (10 + x2) + x3)) mo 49 1 := ⟨_, rfl⟩
        rw [← hKa0] at fb
        have ey : Ka mc = I tcl := by rw [hKa0, u2_ne (ne_role c7.2.1 km (by decide)), u2_ne (ne_role c7.2.1 kcl (by decide)), kMc]
        rw [ey] at fb
        have fb' : finF mo x1 (I tcl x1.toNatClampNeg) Ka J1 R1 = (rb, (I2, J2, R2)) := fb
        have hLM : LkM C mo pl bp fp cl' cp fi sh I K J R tg S M n Ka := by
          rw [hKa0, hn0]
          exact lk0M km kcl (fun _ _ _ _ _ _ _ => rfl) eF
        have hKa : ∀ j, j ≠ 0 → j ≠ 40 → j ≠ 41 → j ≠ 42 → j ≠ 47 → j ≠ 49 → Ka mo j = I mo j := fun j j0 _ _ _ _ j49 => by rw [hKa0, u2_nk j49, u2_ne (ne_role km kcl (by decide)), hKm j j0]
        have hpk := hL.2.2.2.2.1 n (Nat.le_refl _)
        have st := LkM.step (t := t) (p := p) oI oR km ax4 i38 i39 i43 i50 i51 hR1 h5 h7 hoc hfit hn9 (show tg n < 20 by rw [htgn]; omega) (J' := J1) (fun i hi => ⟨(hL.2.2.2.2.1 (i + 1) (by omega)).2.1, (hL.2.2.2.2.1 (i + 1) (by omega)).2.2.1⟩) hpk.1 hpk.2.1 hpk.2.2.1 hpk.2.2.2.1 (xs := I tcl x1.toNatClampNeg) (by rw [htgn]; exact ncl.symm) hLM
        unfold finF at fb'
        simp only [nmU] at fb'
        have sab := sa.app sb
        have la3 : I2 la 3 = I1 la 3 := smO (k := 3) sb c4.2.1 (by decide)
        have la4 : I2 la 4 = I1 la 4 := smO (k := 4) sb c4.2.1 (by decide)
        rcases CD with ⟨z1, Ic, z2, z3, -⟩ | ⟨Ib, Rb, fac, at_, I1', J1', R1', o, ⟨z3, -⟩, ⟨vfac, kfac⟩, hat, ho, z2, o3, ⟨o41, o42⟩, o5, o6, o7, o8, p9, q9, o91, o92, o93⟩
        · rcases st with ⟨-, Kc, y1, y2⟩ | ⟨y0, -⟩
          · rw [y1] at fb'
            dsimp only at fb'
            rw [if_neg (show ¬ (0 : Int32) = 1 by decide)] at fb'
            obtain ⟨qa1, qa2, qa3, qa4⟩ := pairE z2
            obtain ⟨qb1, qb2, qb3, qb4⟩ := pairE fb'
            refine ⟨⟨rw2, RT.none kx km c9 ⟨e1, e2, e3, e4, e5, e6, e7⟩ sab (by decide) (qb3.symm.trans qa3) ?_ ?_ ?_ ?_ (fun j => by rw [← qb4, qa4]; exact hL.2.1 kc j (by rw [kkc]; decide)) ⟨a, b, ha, hb, hab⟩⟩, qa1.trans qb1⟩
            · rw [la3, qa2, z3 la 4 c4.2.1 (by decide)]
            · rw [← qb2, y2 29 (by decide) (by decide) (by decide)]; exact hKa 29 (by decide) (by decide) (by decide) (by decide) (by decide) (by decide)
            · rw [la4, qa2, z3 la 4 c4.2.1 (by decide)]
            · rw [← qb2, y2 30 (by decide) (by decide) (by decide)]; exact hKa 30 (by decide) (by decide) (by decide) (by decide) (by decide) (by decide)
          · exact absurd z1 y0
        · obtain ⟨qa1, qa2, qa3, qa4⟩ := pairE z2
          subst qa2 qa3 qa4
          rcases st with ⟨y0, -⟩ | ⟨-, Kb, y1, y2, y3, -⟩
          · have := (z3.2.2.2.2.1 (n + 1) (Nat.le_refl _)).1
            rw [y0] at this
            cases this
          · rw [y1] at fb'
            dsimp only at fb'
            rw [if_pos (show (1 : Int32) = 1 from rfl)] at fb'
            have cd := z3.chd oI oR cl w0
            have hlaN : la ≠ a ∧ la ≠ b := ⟨ne_role c4.2.1 ha.2.1 (by decide), ne_role c4.2.1 hb.2.1 (by decide)⟩
            have o5' : ∀ z r j, C z = r → r ∉ [6, 1, 53, 49, 4] → J1 z j = J z j := fun z r j hz hr => by
              have nq : ∀ c r', C c = r' → r' ∈ [6, 1, 53, 49, 4] → z ≠ c := fun c r' hc hr' e => hr (by rw [← hz, e, hc]; exact hr')
              exact o5 z j (fun g => nq ru 6 r0.2.1 (by decide) g.1) (fun g => nq kc 1 kkc (by decide) g.1) (nq a 53 ha.2.1 (by decide)) (nq b 53 hb.2.1 (by decide)) (fun g => nq tfl 49 c3.2.1 (by decide) g.1) (fun g => nq la 4 c4.2.1 (by decide) g.1)
            obtain ⟨K1, J3, o', g1, g2, g3, g4, g5, g6⟩ := callX (la_ := 0) (Ia := Ib) (K := K) (Jm := J1) (R1 := R1) (kv := fun s => J cvl s.toNatClampNeg) (hd := J kh) (fld := J tfl at_) oI oR km r0 r1 r2 r3 r5 tt cl cel she s2 s4 s5 (bk t1) (bk t2) (bk t3) k4 c8 c9' ⟨mpl, kpl, vpl⟩ ⟨mbp, kbp, vbp⟩ ⟨mfp, kfp, vfp⟩ ⟨mcl, kcl, vcl⟩ ⟨mcp, kcp, vcp⟩ ⟨mma, kma, vma⟩ ⟨mmt, kmt, vmt⟩ hRm hKf hM (by rw [q3]) (by rw [q6]) hbb (show n + 1 ≤ 10 by omega) cd y2 (fun k hk => z3.1 _ 5 (cd.1 k hk).2.2.1 (by decide)) (fun k hk => z3.1 _ 54 (cd.1 k hk).2.2.2.2.2.1 (by decide)) vfac (z3.1 fac 55 kfac (by decide)) (fun s => by
              show J1 hv _ = J cvl _
              rw [o5' hv 81 _ k4.2.1 (by decide), eV]) hat (by
              funext j
              rw [o5' mh 84 j c9'.2.1 (by decide), e4]) (by rw [o5' mf 83 at_ c8.2.1 (by decide), e3])
            obtain rfl : o = o' := ho.trans g1.symm
            rw [g2] at fb'
            dsimp only at fb'
            obtain ⟨I3, w1, w2, w3⟩ := countedE (mo := mo) (I := K1) (J := J3) (R := R1) (q := o.1.isSome = true)
            rw [w1] at fb'
            dsimp only at fb'
            obtain ⟨qb1, qb2, qb3, qb4⟩ := pairE fb'
            have km1 : ∀ j, (j = 29 ∨ j = 30) → K1 mo j = I mo j := fun j hj => by
              rw [g3 mo j (fun g => by omega), y3 j (by omega) (by omega) (by omega) (by omega)]
              exact hKa j (by omega) (by omega) (by omega) (by omega) (by omega) (by omega)
            have g4' : ∀ z r j, C z = r → r ∉ [11, 99, 100, 83] → J3 z j = J1 z j := fun z r j hz hr => by
              have nq : ∀ c r', C c = r' → r' ∈ [11, 99, 100, 83] → z ≠ c := fun c r' hc hr' e => hr (by rw [← hz, e, hc]; exact hr')
              exact g4 z j (fun g => nq mo 11 km (by decide) g.1) (nq ma 99 kma (by decide)) (nq mt 100 kmt (by decide)) (fun g => nq mf 83 c8.2.1 (by decide) g.1)
            refine ⟨⟨rw2, RT.call kx km c9 ⟨e1, e2, e3, e4, e5, e6, e7⟩ sab (by decide) ?_ ?_ ?_ ?_ ?_⟩, qa1.trans qb1⟩
            · funext j
              rw [← qb3, g4' tfl 49 j c3.2.1 (by decide)]
              by_cases e : j = at_
              · rw [e, o6, g5]
              · rw [o5 tfl j (fun g => ne_role c3.2.1 r0.2.1 (by decide) g.1) (fun g => ne_role c3.2.1 kkc (by decide) g.1) (ne_role c3.2.1 ha.2.1 (by decide)) (ne_role c3.2.1 hb.2.1 (by decide)) (fun g => e g.2) (fun g => ne_role c3.2.1 c4.2.1 (by decide) g.1), g4 mf j (fun g => ne_role c8.2.1 km (by decide) g.1) (ne_role c8.2.1 kma (by decide)) (ne_role c8.2.1 kmt (by decide)) (fun g => e g.2), o5' mf 83 j c8.2.1 (by decide), e3]
            · rw [← qb3, g4' la 4 0 c4.2.1 (by decide), o7, g6, o5' mo 11 25 km (by decide), e5]
            · rw [la3, o41, ← qb2, w2, z3.1 la 4 c4.2.1 (by decide), km1 29 (Or.inl rfl), e6]
            · rw [la4, o42, ← qb2, w3, z3.1 la 4 c4.2.1 (by decide), km1 30 (Or.inr rfl), e7]
            · rw [← qb4]
              rcases o93 with ⟨y4, y5⟩ | ⟨y4, y5⟩
              · subst y4 y5
                exact ⟨_, _, ⟨ha.1, ha.2.1, o91⟩, ⟨hb.1, hb.2.1, o92⟩, hab⟩
              · subst y4 y5
                exact ⟨_, _, ⟨hb.1, hb.2.1, o91⟩, ⟨ha.1, ha.2.1, o92⟩, fun e => hab e.symm⟩
      · rw [if_neg h3] at fa fb
        exact same fa fb
    · rw [if_neg h2] at fa fb
      exact same fa fb
  · rw [if_neg h1] at fa fb
    exact same fa fb
