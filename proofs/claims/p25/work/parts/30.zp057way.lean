theorem isFF {x y : Int32} : F_X10_areFaces x y = if (0 ≤ x.toInt ∧ x.toInt ≤ 9) ∧ (0 ≤ y.toInt ∧ y.toInt ≤ 9) then 1 else 0 := by
  simp only [F_X10_areFaces, nm, isW, ite1, cI0, cI9]
  by_cases h1 : 0 ≤ x.toInt ∧ x.toInt ≤ 9
  · rw [if_pos h1]
    by_cases h2 : 0 ≤ y.toInt ∧ y.toInt ≤ 9
    · rw [if_pos h2, if_pos ⟨h1, h2⟩]
    · rw [if_neg h2, if_neg (fun q => h2 q.2)]
  · rw [if_neg h1, if_neg (fun q => h1 q.1)]
set_option maxHeartbeats 4000000 in
theorem g_way {L : List Nat} {C : Nat → Nat} {x mo : Nat} {I I1 I2 : hI} {J J1 J2 : hJ} {R R1 R2 : hR} (uq : Uq L C) (mx : x ∈ L) (kx : C x = 10) (mm : mo ∈ L) (km : C mo = 11) (oI : OkI L C I) (oR : OkR L C R) (ow0 : Ow L C R) (rel : RW L C x mo (I, J, R)) {x1 : Int32} {x2 : Int32} {x3 : Int32} {ra rb : Int32} (fa : F_X10_way x x1 x2 x3 I J R = (ra, (I1, J1, R1))) (sa : Sm C ms_X10_way (I, J, R) (I1, J1, R1)) (oI1 : OkI L C I1) (oR1 : OkR L C R1) (fb : F_X11_way mo x1 x2 x3 I1 J1 R1 = (rb, (I2, J2, R2))) (sb : Sm C ms_X11_way (I1, J1, R1) (I2, J2, R2)) (oI2 : OkI L C I2) (oR2 : OkR L C R2) : RW L C x mo (I2, J2, R2) ∧ ra = rb := by
  obtain ⟨-, relF, relK⟩ := rel
  have relF : RF L C x mo (I, J, R) := relF
  have relK : RK L C x mo (I, J, R) := relK
  have relF1 : RF L C x mo (I1, J1, R1) := RF.sm relF oR1 sa (by decide)
  have relF2 : RF L C x mo (I2, J2, R2) := RF.sm relF1 oR2 sb (by decide)
  have eR : R1 = R := by
    have e : (F_X10_way x x1 x2 x3 I J R).2.2.2 = R := by
      simp only [F_X10_way, nm, nmU]
      repeat' split
      all_goals rfl
    rw [fa] at e
    exact e
  have eJ : J1 = J := by
    have e : (F_X10_way x x1 x2 x3 I J R).2.2.1 = J := by
      simp only [F_X10_way, nm, nmU]
      repeat' split
      all_goals rfl
    rw [fa] at e
    exact e
  subst eR eJ
  have hI1 : ∀ z r, C z = r → r ∉ exC → I1 z = I z := fun z r h hz => smF sa h (fun c hc e => hz (by rw [← e]; exact (by decide : ∀ c ∈ ms_X10_way, c / 64 ∈ exC) c hc))
  have done : (∀ fi sh wy ww, R1 x 3 = some fi → R1 x 4 = some sh → At L C R1 x 5 wy 9 → At L C R1 wy 2 ww 45 → ∀ q, q < 100 → I1 ww q = I ww q ∨ I1 ww q = encW (cP fi sh q (I, J1, R1)) q) → ra = rb → RW L C x mo (I2, J2, R2) ∧ ra = rb := fun hw he => by
    refine ⟨⟨⟨uq, mx, mm, oI2, oR2⟩, relF2, RK.wr (u := (I, J1, R1)) uq mx mm oI oR relF relK oI2 oR2 relF2 (sa.app sb) (by decide) (fun fi sh wy ww h3 h4 h5 h6 q hq => ?_)⟩, he⟩
    have e := congrFun (smA sb h6.2.1 (by decide) (by decide)) q
    have e : I2 ww q = I1 ww q := e
    show I2 ww q = I ww q ∨ I2 ww q = encW (cP fi sh q (I, J1, R1)) q
    rw [e]
    exact hw fi sh wy ww h3 h4 h5 h6 q hq
  have out : (ra, (I1, J1, R1)) = ((-3 : Int32), (I, J1, R1)) → (rb, (I2, J2, R2)) = ((-3 : Int32), (u2 I1 mo 0 0, J1, R1)) → RW L C x mo (I2, J2, R2) ∧ ra = rb := fun h1 h2 => by
    obtain ⟨qa1, qa2, -, -⟩ := pairE h1
    obtain ⟨qb1, -, -, -⟩ := pairE h2
    exact done (fun _ _ _ _ _ _ _ _ q _ => Or.inl (by rw [qa2])) (qa1.trans qb1.symm)
  simp only [F_X10_way, nm, nmU, isFF, ite1] at fa
  simp only [F_X11_way, F_X11_way_33, F_X11_way_100, nm, nmU, nmW, inM, ite1, Int32.toInt_toInt64, cJ0, cJ9] at fb
  by_cases h1 : 0 ≤ x1.toInt ∧ x1.toInt ≤ 9
  · by_cases h2 : 0 ≤ x2.toInt ∧ x2.toInt ≤ 9
    · simp only [if_pos h1, if_pos h2, if_pos (show (0 ≤ x1.toInt ∧ x1.toInt ≤ 9) ∧ (0 ≤ x2.toInt ∧ x2.toInt ≤ 9) from ⟨h1, h2⟩)] at fa fb
      by_cases h3 : (0 : Int32) ≤ x3
      · simp only [if_pos h3] at fa fb
        obtain ⟨fi, t, p, pl, bp, fp, sh, m8, y10, K, f0, f3, f6, i38, i39, i43, f4, g8, g10, hms, ⟨K8, K10, K94⟩, hsz, hfit⟩ := fxE (J1 := J1) uq mx kx mm km (fun _ _ _ _ => rfl) oI oR relF oI1 hI1
        obtain ⟨fi', t', p', sh', ru, w, al, pa, co, ct, cl⟩ := ClF.get oR mx kx
        obtain rfl : fi' = fi := Option.some.inj (cl.1.2.2.symm.trans f0.2.2)
        obtain rfl : t' = t := Option.some.inj (cl.2.1.2.2.symm.trans f3.2.2)
        obtain rfl : p' = p := Option.some.inj (cl.2.2.1.2.2.symm.trans f6.2.2)
        obtain rfl : sh' = sh := Option.some.inj (cl.2.2.2.1.2.2.symm.trans f4.2.2)
        obtain ⟨wy, mwy, vwy, kwy⟩ := rf_10_5 oR mx kx
        obtain ⟨ww, mww, vww, kww⟩ := rf_9_2 oR mwy kwy
        obtain ⟨lf, mlf, vlf, klf⟩ := rf_9_3 oR mwy kwy
        obtain ⟨fc, mfc, vfc, kfc⟩ := rf_9_6 oR mwy kwy
        obtain ⟨sc, msc, vsc, ksc⟩ := rf_11_44 oR mm km
        obtain ⟨sF, msF, vsF, ksF⟩ := rf_11_45 oR mm km
        obtain ⟨st, mst, vst, kst⟩ := rf_11_46 oR mm km
        obtain ⟨tw, mtw, vtw, ktw⟩ := rf_11_48 oR mm km
        have hfitM : ∀ (a b : Nat) (xa xb : Int32), xa.toInt = a → xb.toInt = b → a < 10 → b < 10 → ∀ Ka, FrS mo pl bp fp st K Ka → ∃ rb Im, F_X11_fitsAt mo xb (10 + xa) Ka J1 R1 = (rb, (Im, J1, R1)) ∧ FrM mo pl bp fp Ka Im ∧ ((cP fi' sh' (10 * a + b) (I, J1, R1) = rb ∧ 0 ≤ rb.toInt ∧ rb.toInt ≤ 9132) ∨ (cP fi' sh' (10 * a + b) (I, J1, R1) = -6 ∧ 1000000 ≤ rb.toInt)) := fun a b xa xb ha hb ba bb Ka hF => by
          obtain ⟨b1, vb1, mb1, kb1⟩ := shE oR f4.1 f4.2.1 (show 10 + b < 20 by omega)
          obtain ⟨b2, vb2, mb2, kb2⟩ := shE oR f4.1 f4.2.1 (show 10 + a < 20 by omega)
          obtain ⟨K', hK'⟩ : ∃ K' : hI, K' = fun z => if z = st then Ka st else K z := ⟨_, rfl⟩
          have e1 : ∀ z, z ≠ st → K' z = K z := fun z h => by rw [hK']; exact if_neg h
          have e2 : K' st = Ka st := by rw [hK']; exact if_pos rfl
          have g1 := rf_7_1 oI mb1 kb1
          obtain ⟨ma1, mma, vma, kma⟩ := rf_7_0 oR mb1 kb1
          have hn := nat_of g1.1
          have hfam : ∀ j, j < (I b1 1).toNatClampNeg → ∃ f, R1 ma1 j = some f ∧ FitB I K' J1 R1 mo fi' f b2 (10 + a) y10 (6 * (10 + b) + j) t' p' pl bp fp := fun j hj => by
            have h6 : j < 6 := by have := g1.2; omega
            obtain ⟨f, mf, vf, -⟩ := oR ma1 mma j (by rw [kma]; exact h6) (by rw [kma]; exact fun e => absurd (show (6 : Nat) = 0 from e) (by decide))
            exact ⟨f, vf, hfit K' (fun z r h hz => e1 z (fun e => hz (by rw [← h, e, kst]; decide))) _ _ _ b1 b2 ma1 f (by omega) (by omega) vb1 vb2 h6 (by omega) vma vf⟩
          have c10 : Int32.toInt 10 = ((10 : Nat) : Int) := by decide
          have hFM : FrM mo pl bp fp K' Ka := ⟨fun z z1 z2 z3 z4 => by
            by_cases e : z = st
            · rw [e, e2]
            · rw [e1 z e]; exact hF.1 z z1 z2 z3 z4 e, fun k k1 k2 k3 => by rw [e1 mo (ne_role km kst (by decide))]; exact hF.2 k k1 k2 k3⟩
          obtain ⟨ra', Ic, rb', Im, w1, w2, -, w4, w3⟩ := all_l (J' := J1) (x1 := xb) (x2 := 10 + xa) g8.2.2 ⟨ne_role g8.2.1 km (by decide), ne_role g8.2.1 i38.2.1 (by decide), ne_role g8.2.1 i39.2.1 (by decide), ne_role g8.2.1 i43.2.1 (by decide)⟩ ⟨ne_role kb1 f0.2.1 (by decide), ne_role kb1 f3.2.1 (by decide), ne_role kb1 f6.2.1 (by decide)⟩ vma (show (10 + xb).toInt = ((10 + b : Nat) : Int) by rw [iadd c10 hb (by omega) (by omega)]; omega) (show (10 + xa).toInt = ((10 + a : Nat) : Int) by rw [iadd c10 ha (by omega) (by omega)]; omega) (by omega) hn.symm (by rw [e1 m8 (ne_role g8.2.1 kst (by decide)), K8, ← hsz (10 + b) b1 (by omega) vb1]; exact hn.symm) (by have := g1.2; omega) hfam (I b1 1).toNatClampNeg 7 7 0 I Ka 0 0 0 0 (by decide) (by omega) (by have := g1.2; omega) (by have := g1.2; omega) FrC.rf hFM (by decide) (by decide) (by decide) (by decide)
          have ec : cP fi' sh' (10 * a + b) (I, J1, R1) = ra' := by
            show (F_X3_costOfAll fi' ((R1 sh' (10 + (10 * a + b) % 10)).getD 0) ((R1 sh' (10 + (10 * a + b) / 10)).getD 0) I J1 R1).1 = ra'
            rw [show (10 * a + b) % 10 = b by omega, show (10 * a + b) / 10 = a by omega, vb1, vb2]
            simp only [Option.getD_some]
            have w1 : F_X3_costOfAll fi' b1 b2 I J1 R1 = (ra', (Ic, J1, R1)) := w1
            rw [w1]
          rw [ec]
          exact ⟨rb', Im, w2, ⟨fun z z1 z2 z3 z4 => by rw [w4.1 z z1 z2 z3 z4]; exact (hFM.1 z z1 z2 z3 z4).symm, fun k k1 k2 k3 => by rw [w4.2 k k1 k2 k3]; exact (hFM.2 k k1 k2 k3).symm⟩, w3⟩
        have hcc : CcR (fun q => cP fi' sh' q (I, J1, R1)) := fun q hq => by
          obtain ⟨xa, hxa⟩ : ∃ xa : Int32, xa.toInt = ((q / 10 : Nat) : Int) := ⟨Int32.ofNat (q / 10), Int32.toInt_ofNat_of_lt (by omega)⟩
          obtain ⟨xb, hxb⟩ : ∃ xb : Int32, xb.toInt = ((q % 10 : Nat) : Int) := ⟨Int32.ofNat (q % 10), Int32.toInt_ofNat_of_lt (by omega)⟩
          obtain ⟨rb', Im, -, -, h⟩ := hfitM (q / 10) (q % 10) xa xb hxa hxb (by omega) (by omega) K ⟨fun _ _ _ _ _ _ => rfl, fun _ _ _ _ => rfl⟩
          rw [show 10 * (q / 10) + q % 10 = q by omega] at h
          rcases h with ⟨h1, h2, h3⟩ | ⟨h1, -⟩
          · exact Or.inr (by dsimp only; rw [h1]; exact ⟨h2, h3⟩)
          · exact Or.inl h1
        have oK : ∀ q, q < 1000 → 0 ≤ (K sF q).toInt ∧ (K sF q).toInt ≤ 9 := fun q hq => by
          rw [K94 sF ksF]
          have g := oI1 sF msF q (by rw [ksF]; exact hq)
          rw [ksF] at g
          exact ⟨g.1, g.2.1⟩
        have n1 := nat_of h1.1
        have n2 := nat_of h2.1
        obtain ⟨a, ha⟩ : ∃ a : Nat, x1.toInt = a := ⟨_, n1.symm⟩
        obtain ⟨b, hb⟩ : ∃ b : Nat, x2.toInt = b := ⟨_, n2.symm⟩
        obtain ⟨r, Ic, c1, c2, c3, c4, c5, c6⟩ := wayC (J := J1) uq mx kx mm km oI oR relF relK cl ⟨mwy, kwy, vwy⟩ ⟨mww, kww, vww⟩ ⟨mlf, klf, vlf⟩ ⟨mfc, kfc, vfc⟩ hcc ha hb (by omega) (by omega)
        obtain ⟨K0, Ib, k0, Im, d1, d2, d3, d4, d5, d6, d7, d8, d9, d10, d11, d12⟩ := wayM (x1 := x1) (x2 := x2) (tw := tw) hcc vsc vsF vst vtw (ne_role kst ksc (by decide)) (ne_role kst ksF (by decide)) (ne_role ksc ksF (by decide)) (ne_role ktw km (by decide)) (ne_role ktw ksc (by decide)) (ne_role ktw ksF (by decide)) (ne_role km ksc (by decide)) (ne_role km ksF (by decide)) (ne_role kst km (by decide)) (ne_role kst i38.2.1 (by decide)) (ne_role kst i39.2.1 (by decide)) (ne_role kst i43.2.1 (by decide)) ⟨ne_role ksF km (by decide), ne_role ksF i38.2.1 (by decide), ne_role ksF i39.2.1 (by decide), ne_role ksF i43.2.1 (by decide), ne_role ksF kst (by decide)⟩ ha hb (by omega) (by omega) oK hfitM
        simp only [vwy, vfc, Option.getD_some, c1] at fa
        simp only [hms, d1, vtw, Option.getD_some] at fb
        have cM : Int32.toInt 1000000 = 1000000 := by decide
        have hL : (Ib sc (10 * k0 + b)).toInt = Lw Ib sc k0 b := rfl
        have fin : Ic = I1 → ra = rb → RW L C x mo (I2, J2, R2) ∧ ra = rb := fun e he => by
          subst e
          refine done (fun fi2 sh2 wy2 ww2 g3 g4 g5 g6 q hq => ?_) he
          obtain rfl : fi' = fi2 := Option.some.inj (cl.1.2.2.symm.trans g3)
          obtain rfl : sh' = sh2 := Option.some.inj (cl.2.2.2.1.2.2.symm.trans g4)
          obtain rfl : wy = wy2 := Option.some.inj (vwy.symm.trans g5.2.2)
          obtain rfl : ww = ww2 := Option.some.inj (vww.symm.trans g6.2.2)
          exact Or.inr (c3 q hq)
        rcases wayEq (cc := fun q => cP fi' sh' q (I, J1, R1)) hcc c3 d2 (show a < 10 by omega) (show b < 10 by omega) c4 c5 d3 d4 d5 d6 with ⟨w1, w2, w3, w4, w5⟩ | ⟨w1, w2⟩
        · rcases c6 with ⟨-, g2⟩ | ⟨g1, -, g3, g4, g5, g6⟩
          · exact absurd w1 g2
          · rw [g1, if_neg (show ¬ (1 : Int32) = 0 by decide)] at fa
            rw [if_pos (show Ib sc (10 * k0 + b) < 1000000 by rw [ilt, cM, hL]; exact w2)] at fb
            have len : (gry wdst (fun v => 10 * v + nx (gW Ic ww) (dW Ic lf) v 0 10) b 10 a).length = k0 := by rw [← w5]; unfold RwW; exact sfx_len _ _
            rw [len] at g4
            by_cases z0 : x3 = 0
            · rw [if_pos z0] at fa fb
              obtain ⟨qa1, qa2, -, -⟩ := pairE fa
              obtain ⟨qb1, -, -, -⟩ := pairE fb
              refine fin qa2 ?_
              rw [← qa1, ← qb1]
              exact Int32.toInt_inj.mp (by rw [g3, hL, w4]; omega)
            · rw [if_neg z0] at fa fb
              by_cases z1 : x3 = 1
              · rw [if_pos z1] at fa fb
                obtain ⟨qa1, qa2, -, -⟩ := pairE fa
                obtain ⟨qb1, -, -, -⟩ := pairE fb
                refine fin qa2 ?_
                rw [← qa1, ← qb1]
                exact Int32.toInt_inj.mp (by rw [g4, d7]; omega)
              · rw [if_neg z1] at fa fb
                have y0 := Rg_le h3
                have y1 := Rg_ne z0
                have y2 := Rg_ne z1
                rw [cI0] at y0 y1
                rw [cI1] at y2
                obtain ⟨k, hk⟩ : ∃ k : Nat, k = x3.toInt.toNat - 2 := ⟨_, rfl⟩
                have hb3 : x3.toInt ≤ 2147483647 := (Rg_any x3).2
                have hx : (x3 - 2).toInt = (k : Int) := by rw [isub rfl cI2 (by omega) (by omega)]; omega
                rw [clamp_toInt hx] at fa fb
                by_cases z2 : k0 + 1 ≤ k
                · rw [if_pos (show Ic wy 5 ≤ x3 - 2 by rw [ile, g4, hx]; omega)] at fa
                  rw [if_pos (show Im mo 47 ≤ x3 - 2 by rw [ile, d7, hx]; omega)] at fb
                  obtain ⟨qa1, qa2, -, -⟩ := pairE fa
                  obtain ⟨qb1, -, -, -⟩ := pairE fb
                  exact fin qa2 (qa1.symm.trans qb1)
                · rw [if_neg (show ¬ Ic wy 5 ≤ x3 - 2 by rw [ile, g4, hx]; omega)] at fa
                  rw [if_neg (show ¬ Im mo 47 ≤ x3 - 2 by rw [ile, d7, hx]; omega)] at fb
                  obtain ⟨qa1, qa2, -, -⟩ := pairE fa
                  obtain ⟨qb1, -, -, -⟩ := pairE fb
                  refine fin qa2 ?_
                  rw [← qa1, ← qb1]
                  refine Int32.toInt_inj.mp ?_
                  rw [d8 k (by omega)]
                  have dg : ∀ j, j ≤ 9 → (Ib sF (10 * (10 * k0 + b) + j)).toInt = (fcN Ib sF k0 b j : Nat) ∧ fcN Ib sF k0 b j < 10 := fun j hj => by
                    have q := d10 (10 * (10 * k0 + b) + j) (by omega)
                    have := nat_of q.1
                    unfold fcN
                    exact ⟨by omega, by omega⟩
                  cases k with
                  | zero =>
                    rw [g5, (dg 0 (by omega)).1, d9 w2]
                  | succ j =>
                    have hj : (gry wdst (fun v => 10 * v + nx (gW Ic ww) (dW Ic lf) v 0 10) b 10 a)[j]? = some (10 * fcN Ib sF k0 b j + fcN Ib sF k0 b (j + 1)) := by
                      rw [← w5]
                      unfold RwW
                      rw [sfx_get, if_pos (by omega), Nat.zero_add]
                    have e6 := g6 j _ hj
                    rw [show j + 1 = 1 + j by omega, e6, show 1 + j = j + 1 by omega, (dg (j + 1) (by omega)).1]
                    have := (dg (j + 1) (by omega)).2
                    unfold wdst
                    omega
        · rcases c6 with ⟨g1, -⟩ | ⟨-, g2, -⟩
          · rw [g1, if_pos (show (0 : Int32) = 0 from rfl)] at fa
            rw [if_neg (show ¬ Ib sc (10 * k0 + b) < 1000000 by rw [ilt, cM, hL]; omega)] at fb
            obtain ⟨qa1, qa2, -, -⟩ := pairE fa
            obtain ⟨qb1, -, -, -⟩ := pairE fb
            exact fin qa2 (qa1.symm.trans qb1)
          · omega
      · simp only [if_neg h3] at fa fb
        exact out fa.symm fb.symm
    · simp only [if_pos h1, if_neg h2, if_neg (show ¬ ((0 ≤ x1.toInt ∧ x1.toInt ≤ 9) ∧ (0 ≤ x2.toInt ∧ x2.toInt ≤ 9)) from fun q => h2 q.2)] at fa fb
      exact out fa.symm fb.symm
  · simp only [if_neg h1, if_neg (show ¬ ((0 ≤ x1.toInt ∧ x1.toInt ≤ 9) ∧ (0 ≤ x2.toInt ∧ x2.toInt ≤ 9)) from fun q => h1 q.1)] at fa fb
    exact out fa.symm fb.symm
