theorem cP_sm {L : List Nat} {C : Nat → Nat} {x mo : Nat} {ms : List Nat} {I I' : hI} {J J' : hJ} {R R' : hR} (uq : Uq L C) (mx : x ∈ L) (kx : C x = 10) (mm : mo ∈ L) (km : C mo = 11) (oI : OkI L C I) (oR : OkR L C R) (rel : RF L C x mo (I, J, R)) (oI' : OkI L C I') (oR' : OkR L C R') (rel' : RF L C x mo (I', J', R')) {fi t p sh ru w al pa co ct : Nat} (cl : ClF L C x R fi t p sh ru w al pa co ct) (s : Sm C ms (I, J, R) (I', J', R')) (hm : codesL.all (fun z => !ms.contains z) = true) {q : Nat} (hq : q < 100) : cP fi sh q (I', J', R') = cP fi sh q (I, J, R) := by
  have hn : ∀ z ∈ codesL, ms.contains z = false := fun z hz => by have := List.all_eq_true.mp hm z hz; simpa using this
  have cl' : ClF L C x R' fi t p sh ru w al pa co ct := cl.sm (u := (I, J, R)) (v := (I', J', R')) kx s hn
  obtain ⟨b1, vb1, mb1, kb1⟩ := shE oR cl.2.2.2.1.1 cl.2.2.2.1.2.1 (show 10 + q % 10 < 20 by omega)
  obtain ⟨b, vb, mb, kb⟩ := shE oR cl.2.2.2.1.1 cl.2.2.2.1.2.1 (show 10 + q / 10 < 20 by omega)
  have s1 : ∀ z, R' sh z = R sh z := fun z => (s sh z (by rw [cl.2.2.2.1.2.1]; exact nm_arr (by decide) (hn 3648 (by decide)))).2.2
  obtain ⟨ra, Ic, Ic', c1, c2, -, -⟩ := costE uq mx kx mm km oI oR rel oI' oR' rel' cl cl' (smA s cl.2.2.2.2.2.1.2.1 (by decide) (hn 2432 (by decide))) (smO (k := 1) s cl.2.2.2.2.2.2.1.2.1 (hn 1 (by decide))) (smA s cl.2.2.2.2.2.2.2.1.2.1 (by decide) (hn 2560 (by decide))) (smA s cl.2.2.2.2.2.2.2.2.2.2.1 (by decide) (hn 2624 (by decide))) (show 10 + q % 10 < 20 by omega) (show 10 + q / 10 < 20 by omega) vb1 vb ((s1 _).trans vb1) ((s1 _).trans vb) (MSame.sm (u := (I, J, R)) (v := (I', J', R')) oR mb1 kb1 s hn) (MSame.sm (u := (I, J, R)) (v := (I', J', R')) oR mb kb s hn) FrC.rf FrC.rf
  show (F_X3_costOfAll fi ((R' sh (10 + q % 10)).getD 0) ((R' sh (10 + q / 10)).getD 0) I' J' R').1 = (F_X3_costOfAll fi ((R sh (10 + q % 10)).getD 0) ((R sh (10 + q / 10)).getD 0) I J R).1
  rw [s1, s1, vb1, vb]
  simp only [Option.getD_some]
  rw [c1, c2]
set_option maxHeartbeats 4000000 in
theorem wayX {L : List Nat} {C : Nat → Nat} {x mo : Nat} {I : hI} {J : hJ} {R : hR} (uq : Uq L C) (mx : x ∈ L) (kx : C x = 10) (mm : mo ∈ L) (km : C mo = 11) (oI : OkI L C I) (oR : OkR L C R) (relF : RF L C x mo (I, J, R)) {fi t p sh ru w al pa co ct : Nat} (cl : ClF L C x R fi t p sh ru w al pa co ct) {K : hI} (hms : F_X11_measure mo (u2 I mo 0 0) J R = (K, J, R)) {tw pl bp fp : Nat} (atw : At L C R mo 48 tw 96) (i38 : At L C R mo 38 pl 90) (i39 : At L C R mo 39 bp 91) (i43 : At L C R mo 43 fp 92) {x1 x2 : Int32} {a b : Nat} (ha : x1.toInt = a) (hb : x2.toInt = b) (ba : a < 10) (bb : b < 10) :
    CcR (fun q => cP fi sh q (I, J, R)) ∧ ∃ n0 Im v, F_X11_findWay mo x1 x2 K J R = (v, (Im, J, R)) ∧ n0 < 10 ∧ (∀ z r, C z = r → r ∉ exW → z ≠ pl → z ≠ bp → z ≠ fp → Im z = K z) ∧ (∀ k, k ≠ 40 → k ≠ 41 → k ≠ 42 → k ≠ 47 → Im mo k = K mo k) ∧ (Im mo 47).toInt = ((n0 + 1 : Nat) : Int) ∧
      ∀ (Ic : hI) (ww lf : Nat), (∀ q, q < 100 → Ic ww q = encW (cP fi sh q (I, J, R)) q) → BI (gW Ic ww) b (dW Ic lf) → FP (gW Ic ww) (dW Ic lf) →
        (dW Ic lf a < 268435456 ∧ v < 1000000 ∧ (gry wdst (fun v => 10 * v + nx (gW Ic ww) (dW Ic lf) v 0 10) b 10 a).length = n0 ∧ ∀ fc, (Ic fc 0).toInt = a → (∀ j e, (gry wdst (fun v => 10 * v + nx (gW Ic ww) (dW Ic lf) v 0 10) b 10 a)[j]? = some e → (Ic fc (1 + j)).toInt = wdst e) → ∀ j, j ≤ n0 → (Im tw j).toInt = (Ic fc j).toInt ∧ 0 ≤ (Ic fc j).toInt ∧ (Ic fc j).toInt ≤ 9) ∨ (¬ dW Ic lf a < 268435456 ∧ ¬ v < 1000000) := by
  obtain ⟨fi2, t2, p2, pl2, bp2, fp2, sh2, m8, y10, K2, f0, f3, f6, i38', i39', i43', f4, g8, g10, hms2, ⟨K8, K10, K94⟩, hsz, hfit⟩ := fxE (I := I) (J := J) (I1 := I) (J1 := J) uq mx kx mm km (It := I) (fun _ _ _ _ => rfl) oI oR relF oI (fun _ _ _ _ => rfl)
  obtain rfl : fi = fi2 := Option.some.inj (cl.1.2.2.symm.trans f0.2.2)
  obtain rfl : t = t2 := Option.some.inj (cl.2.1.2.2.symm.trans f3.2.2)
  obtain rfl : p = p2 := Option.some.inj (cl.2.2.1.2.2.symm.trans f6.2.2)
  obtain rfl : sh = sh2 := Option.some.inj (cl.2.2.2.1.2.2.symm.trans f4.2.2)
  obtain rfl : pl = pl2 := Option.some.inj (i38.2.2.symm.trans i38'.2.2)
  obtain rfl : bp = bp2 := Option.some.inj (i39.2.2.symm.trans i39'.2.2)
  obtain rfl : fp = fp2 := Option.some.inj (i43.2.2.symm.trans i43'.2.2)
  have eK : (K, J, R) = (K2, J, R) := hms.symm.trans hms2
  obtain rfl : K = K2 := congrArg Prod.fst eK
  obtain ⟨sc, msc, vsc, ksc⟩ := rf_11_44 oR mm km
  obtain ⟨sF, msF, vsF, ksF⟩ := rf_11_45 oR mm km
  obtain ⟨st, mst, vst, kst⟩ := rf_11_46 oR mm km
  have ktw := atw.2.1
  have hfitM : ∀ (a b : Nat) (xa xb : Int32), xa.toInt = a → xb.toInt = b → a < 10 → b < 10 → ∀ Ka, FrS mo pl bp fp st K Ka → ∃ rb Im, F_X11_fitsAt mo xb (10 + xa) Ka J R = (rb, (Im, J, R)) ∧ FrM mo pl bp fp Ka Im ∧ ((cP fi sh (10 * a + b) (I, J, R) = rb ∧ 0 ≤ rb.toInt ∧ rb.toInt ≤ 9132) ∨ (cP fi sh (10 * a + b) (I, J, R) = -6 ∧ 1000000 ≤ rb.toInt)) := fun a b xa xb ha hb ba bb Ka hF => by
    obtain ⟨b1, vb1, mb1, kb1⟩ := shE oR f4.1 f4.2.1 (show 10 + b < 20 by omega)
    obtain ⟨b2, vb2, mb2, kb2⟩ := shE oR f4.1 f4.2.1 (show 10 + a < 20 by omega)
    obtain ⟨K', hK'⟩ : ∃ K' : hI, K' = fun z => if z = st then Ka st else K z := ⟨_, rfl⟩
    have e1 : ∀ z, z ≠ st → K' z = K z := fun z h => by rw [hK']; exact if_neg h
    have e2 : K' st = Ka st := by rw [hK']; exact if_pos rfl
    have g1 := rf_7_1 oI mb1 kb1
    obtain ⟨ma1, mma, vma, kma⟩ := rf_7_0 oR mb1 kb1
    have hn := nat_of g1.1
    have hfam : ∀ j, j < (I b1 1).toNatClampNeg → ∃ f, R ma1 j = some f ∧ FitB I K' J R mo fi f b2 (10 + a) y10 (6 * (10 + b) + j) t p pl bp fp := fun j hj => by
      have h6 : j < 6 := by have := g1.2; omega
      obtain ⟨f, mf, vf, -⟩ := oR ma1 mma j (by rw [kma]; exact h6) (by rw [kma]; exact fun e => absurd (show (6 : Nat) = 0 from e) (by decide))
      exact ⟨f, vf, hfit K' (fun z r h hz => e1 z (fun e => hz (by rw [← h, e, kst]; decide))) _ _ _ b1 b2 ma1 f (by omega) (by omega) vb1 vb2 h6 (by omega) vma vf⟩
    have c10 : Int32.toInt 10 = ((10 : Nat) : Int) := by decide
    have hFM : FrM mo pl bp fp K' Ka := ⟨fun z z1 z2 z3 z4 => by
      by_cases e : z = st
      · rw [e, e2]
      · rw [e1 z e]; exact hF.1 z z1 z2 z3 z4 e, fun k k1 k2 k3 => by rw [e1 mo (ne_role km kst (by decide))]; exact hF.2 k k1 k2 k3⟩
    obtain ⟨ra', Ic, rb', Im, w1, w2, -, w4, w3⟩ := all_l (J' := J) (x1 := xb) (x2 := 10 + xa) g8.2.2 ⟨ne_role g8.2.1 km (by decide), ne_role g8.2.1 i38.2.1 (by decide), ne_role g8.2.1 i39.2.1 (by decide), ne_role g8.2.1 i43.2.1 (by decide)⟩ ⟨ne_role kb1 f0.2.1 (by decide), ne_role kb1 f3.2.1 (by decide), ne_role kb1 f6.2.1 (by decide)⟩ vma (show (10 + xb).toInt = ((10 + b : Nat) : Int) by rw [iadd c10 hb (by omega) (by omega)]; omega) (show (10 + xa).toInt = ((10 + a : Nat) : Int) by rw [iadd c10 ha (by omega) (by omega)]; omega) (by omega) hn.symm (by rw [e1 m8 (ne_role g8.2.1 kst (by decide)), K8, ← hsz (10 + b) b1 (by omega) vb1]; exact hn.symm) (by have := g1.2; omega) hfam (I b1 1).toNatClampNeg 7 7 0 I Ka 0 0 0 0 (by decide) (by omega) (by have := g1.2; omega) (by have := g1.2; omega) FrC.rf hFM (by decide) (by decide) (by decide) (by decide)
    have ec : cP fi sh (10 * a + b) (I, J, R) = ra' := by
      show (F_X3_costOfAll fi ((R sh (10 + (10 * a + b) % 10)).getD 0) ((R sh (10 + (10 * a + b) / 10)).getD 0) I J R).1 = ra'
      rw [show (10 * a + b) % 10 = b by omega, show (10 * a + b) / 10 = a by omega, vb1, vb2]
      simp only [Option.getD_some]
      have w1 : F_X3_costOfAll fi b1 b2 I J R = (ra', (Ic, J, R)) := w1
      rw [w1]
    rw [ec]
    exact ⟨rb', Im, w2, ⟨fun z z1 z2 z3 z4 => by rw [w4.1 z z1 z2 z3 z4]; exact (hFM.1 z z1 z2 z3 z4).symm, fun k k1 k2 k3 => by rw [w4.2 k k1 k2 k3]; exact (hFM.2 k k1 k2 k3).symm⟩, w3⟩
  have hcc : CcR (fun q => cP fi sh q (I, J, R)) := fun q hq => by
    obtain ⟨xa, hxa⟩ : ∃ xa : Int32, xa.toInt = ((q / 10 : Nat) : Int) := ⟨Int32.ofNat (q / 10), Int32.toInt_ofNat_of_lt (by omega)⟩
    obtain ⟨xb, hxb⟩ : ∃ xb : Int32, xb.toInt = ((q % 10 : Nat) : Int) := ⟨Int32.ofNat (q % 10), Int32.toInt_ofNat_of_lt (by omega)⟩
    obtain ⟨rb', Im, -, -, h⟩ := hfitM (q / 10) (q % 10) xa xb hxa hxb (by omega) (by omega) K ⟨fun _ _ _ _ _ _ => rfl, fun _ _ _ _ => rfl⟩
    rw [show 10 * (q / 10) + q % 10 = q by omega] at h
    rcases h with ⟨h1, h2, h3⟩ | ⟨h1, -⟩
    · exact Or.inr (by dsimp only; rw [h1]; exact ⟨h2, h3⟩)
    · exact Or.inl h1
  have oK : ∀ q, q < 1000 → 0 ≤ (K sF q).toInt ∧ (K sF q).toInt ≤ 9 := fun q hq => by
    rw [K94 sF ksF]
    have g := oI sF msF q (by rw [ksF]; exact hq)
    rw [ksF] at g
    exact ⟨g.1, g.2.1⟩
  obtain ⟨K0, Ib, k0, Im, d1, d2, d3, d4, d5, d6, d7, d8, d9, d10, d11, d12⟩ := wayM (x1 := x1) (x2 := x2) (tw := tw) hcc vsc vsF vst atw.2.2 (ne_role kst ksc (by decide)) (ne_role kst ksF (by decide)) (ne_role ksc ksF (by decide)) (ne_role ktw km (by decide)) (ne_role ktw ksc (by decide)) (ne_role ktw ksF (by decide)) (ne_role km ksc (by decide)) (ne_role km ksF (by decide)) (ne_role kst km (by decide)) (ne_role kst i38.2.1 (by decide)) (ne_role kst i39.2.1 (by decide)) (ne_role kst i43.2.1 (by decide)) ⟨ne_role ksF km (by decide), ne_role ksF i38.2.1 (by decide), ne_role ksF i39.2.1 (by decide), ne_role ksF i43.2.1 (by decide), ne_role ksF kst (by decide)⟩ ha hb ba bb oK hfitM
  refine ⟨hcc, k0, Im, _, d1, d4, fun z r hz hr z1 z2 z3 => ?_, d12, d7, fun Ic ww lf c3 c4 c5 => ?_⟩
  · have nq : ∀ c r', C c = r' → r' ∈ exW → z ≠ c := fun c r' hc hr' e => hr (by rw [← hz, e, hc]; exact hr')
    exact d11 z (nq mo 11 km (by decide)) z1 z2 z3 (nq st 95 kst (by decide)) (nq sc 93 ksc (by decide)) (nq sF 94 ksF (by decide)) (nq tw 96 ktw (by decide))
  · have cM : Int32.toInt 1000000 = 1000000 := by decide
    have hL : (Ib sc (10 * k0 + b)).toInt = Lw Ib sc k0 b := rfl
    rcases wayEq (cc := fun q => cP fi sh q (I, J, R)) hcc c3 d2 ba bb c4 c5 d3 d4 d5 d6 with ⟨w1, w2, w3, w4, w5⟩ | ⟨w1, w2⟩
    · refine Or.inl ⟨w1, by rw [ilt, cM, hL]; exact w2, by rw [← w5]; unfold RwW; exact sfx_len _ _, fun fc g5 g6 k hk => ?_⟩
      have dg : ∀ j, j ≤ 9 → (Ib sF (10 * (10 * k0 + b) + j)).toInt = (fcN Ib sF k0 b j : Nat) ∧ fcN Ib sF k0 b j < 10 := fun j hj => by
        have q := d10 (10 * (10 * k0 + b) + j) (by omega)
        have := nat_of q.1
        unfold fcN
        exact ⟨by omega, by omega⟩
      have hfk : (Ic fc k).toInt = (fcN Ib sF k0 b k : Nat) := by
        cases k with
        | zero => rw [g5, d9 w2]
        | succ j =>
          have hj : (gry wdst (fun v => 10 * v + nx (gW Ic ww) (dW Ic lf) v 0 10) b 10 a)[j]? = some (10 * fcN Ib sF k0 b j + fcN Ib sF k0 b (j + 1)) := by
            rw [← w5]
            unfold RwW
            rw [sfx_get, if_pos (by omega), Nat.zero_add]
          have e6 := g6 j _ hj
          have := (dg (j + 1) (by omega)).2
          rw [show j + 1 = 1 + j by omega, e6, show 1 + j = j + 1 by omega]
          unfold wdst
          omega
      have := dg k (by omega)
      rw [d8 k (by omega), this.1, hfk]
      exact ⟨rfl, by omega, by omega⟩
    · exact Or.inr ⟨by omega, by rw [ilt, cM, hL]; omega⟩
