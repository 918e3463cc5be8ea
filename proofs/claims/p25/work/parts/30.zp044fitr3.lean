theorem smF {C : Nat → Nat} {ms : List Nat} {u v : hU} {z r : Nat} (s : Sm C ms u v) (hz : C z = r) (h : ∀ c ∈ ms, c / 64 ≠ r) : v.1 z = u.1 z := funext fun k => (s z k (fun q => h _ q (by rw [hz]; exact mC_div r k))).1
set_option maxHeartbeats 4000000 in
theorem fxE {L : List Nat} {C : Nat → Nat} {x mo : Nat} {I I1 : hI} {J J1 : hJ} {R : hR} (uq : Uq L C) (mx : x ∈ L) (kx : C x = 10) (mm : mo ∈ L) (km : C mo = 11) {It : hI} (hIt : ∀ z r, C z = r → r ∉ exI → It z = I z) (oI : OkI L C It) (oR : OkR L C R) (rel : RF L C x mo (I, J, R)) (oI1 : OkI L C I1) (hI1 : ∀ z r, C z = r → r ∉ exC → I1 z = I z) :
    ∃ fi t p pl bp fp sh m8 y10 K, At L C R x 3 fi 3 ∧ At L C R fi 3 t 43 ∧ At L C R fi 6 p 44 ∧ At L C R mo 38 pl 90 ∧ At L C R mo 39 bp 91 ∧ At L C R mo 43 fp 92 ∧ At L C R x 4 sh 57 ∧ At L C R mo 8 m8 70 ∧ At L C R mo 10 y10 72 ∧ F_X11_measure mo (u2 I1 mo 0 0) J1 R = (K, J1, R) ∧ (K m8 = I m8 ∧ K y10 = I y10 ∧ ∀ z, C z = 94 → K z = I1 z) ∧ (∀ s b, s < 20 → R sh s = some b → I b 1 = I m8 s) ∧
      ∀ K', (∀ z r, C z = r → r ∉ exW → K' z = K z) → ∀ (s1 j1 s b1 b ma1 f : Nat), s1 < 20 → s < 20 → R sh s1 = some b1 → R sh s = some b → j1 < 6 → (j1 : Int) < (I b1 1).toInt → R b1 0 = some ma1 → R ma1 j1 = some f → FitB I K' J R mo fi f b s y10 (6 * s1 + j1) t p pl bp fp := by
  obtain ⟨relR, relM, relA, relC⟩ := rel
  obtain ⟨-, -, ru, rf, rt, rc, rb', rm, rth, w, fi', mf, mt, mc, mb, mp, mi, c, e, tt⟩ := relR
  have c : CelR L C x mo R ru rf rt rc rb' rm rth w fi' mf mt mc mb mp mi := c
  have e : EqR I mo ru rf rt rc rb' rm rth mf mt mc mb mp mi := e
  have tt : Tb I ru rf rt rc rth w fi' := tt
  obtain ⟨c0, c1, c2, c3, c4, c5, c6, c7, c8, d1, d2, d3, d4, d5, d6⟩ := c
  obtain ⟨e1, e2, e3, e4, e5, -⟩ := e
  obtain ⟨-, -, sh, m8, n9, y10, o11, e12, w13, f14, u15, t16, cel, she⟩ := relM
  have cel : CelM L C x mo R sh m8 n9 y10 o11 e12 w13 f14 u15 t16 := cel
  have she : ShEq I R sh m8 n9 y10 o11 e12 w13 f14 u15 t16 := she
  obtain ⟨-, -, al, pa, ma, ⟨a0, a1, a2⟩, eA⟩ := relA
  have a0 : At L C R x 1 al 0 := a0
  have a1 : At L C R al 0 pa 40 := a1
  have a2 : At L C R mo 17 ma 79 := a2
  have eA : EqA I mo al pa ma := eA
  obtain ⟨-, -, co, ct, cv, hc, hv, ⟨k0, k1, -, k3, -⟩, eC, -⟩ := relC
  have k0 : At L C R x 2 co 2 := k0
  have k1 : At L C R co 0 ct 41 := k1
  have k3 : At L C R mo 19 hc 80 := k3
  have eC : I ct = I hc := eC
  obtain ⟨fi, mfi, vfi, kfi⟩ := rf_10_3 oR mx kx
  obtain ⟨t, mt', vt, kt⟩ := rf_3_3 oR mfi kfi
  obtain ⟨p, mp', vp, kp⟩ := rf_3_6 oR mfi kfi
  obtain ⟨pl, mpl, vpl, kpl⟩ := rf_11_38 oR mm km
  obtain ⟨bp, mbp, vbp, kbp⟩ := rf_11_39 oR mm km
  obtain ⟨fp, mfp, vfp, kfp⟩ := rf_11_43 oR mm km
  have hr := RlO (R := R) (p := 0) (i := 0) (j := 0) (k := 0) oI ⟨c0.1, c0.2.1⟩ ⟨c1.1, c1.2.1⟩ ⟨c2.1, c2.2.1⟩ ⟨c3.1, c3.2.1⟩
  have hr : Rl I ru rf rt rc := by
    unfold Rl at *
    rw [hIt ru 6 c0.2.1 (by decide), hIt rf 32 c1.2.1 (by decide), hIt rt 33 c2.2.1 (by decide), hIt rc 34 c3.2.1 (by decide)] at hr
    exact hr
  obtain ⟨K, tc, tm, tr, t1, t2, t3, m1, m2, m3⟩ := mmeasP (I := u2 I1 mo 0 0) (J := J1) (wf_11_0 oI1 km (Rg_any _)) oR mm km d1 d2 d3 d6
  have ne : ∀ z r, C z = r → r ≠ 11 → u2 I1 mo 0 0 z = I1 z := fun z r h q => u2_ne (ne_role h km q)
  have eqs : sr (u2 I1 mo 0 0) mf = sr I rf ∧ sr (u2 I1 mo 0 0) mt = sr I rt ∧ cs (u2 I1 mo 0 0) mc = cs I rc ∧ pm (u2 I1 mo 0 0) mo mi = pe I ru rth := by
    unfold sr cs pm pe
    rw [ne mf 64 d1.2.1 (by decide), ne mt 65 d2.2.1 (by decide), ne mc 66 d3.2.1 (by decide), ne mi 69 d6.2.1 (by decide), u2_nk (show (1 : Nat) ≠ 0 by decide), hI1 mf 64 d1.2.1 (by decide), hI1 mt 65 d2.2.1 (by decide), hI1 mc 66 d3.2.1 (by decide), hI1 mi 69 d6.2.1 (by decide), hI1 mo 11 km (by decide), e1, e2, e3, e4, e5]
    exact ⟨rfl, rfl, rfl, rfl⟩
  rw [eqs.1, eqs.2.1, eqs.2.2.1, eqs.2.2.2] at m3
  have hK : ∀ z r, C z = r → r ∉ exK → K z = I z := fun z r h hz => by
    have nq : ∀ a, a ∈ exK → C z ≠ a := fun a ha e => hz (by rw [← h, e]; exact ha)
    rw [m2 z (nq 85 (by decide)) (nq 86 (by decide)) (nq 87 (by decide)) (nq 88 (by decide)) (nq 89 (by decide)), ne z r h (fun e => hz (by rw [e]; decide)), hI1 z r h (fun q => hz (exCK r q))]
  obtain ⟨g4, g8, g9, g10, g11, g12, g13, g14, g15, g16⟩ := id cel
  refine ⟨fi, t, p, pl, bp, fp, sh, m8, y10, K, ⟨mfi, kfi, vfi⟩, ⟨mt', kt, vt⟩, ⟨mp', kp, vp⟩, ⟨mpl, kpl, vpl⟩, ⟨mbp, kbp, vbp⟩, ⟨mfp, kfp, vfp⟩, g4, g8, g10, m1, ⟨hK m8 70 g8.2.1 (by decide), hK y10 72 g10.2.1 (by decide), fun z h => by rw [m2 z (by rw [h]; decide) (by rw [h]; decide) (by rw [h]; decide) (by rw [h]; decide) (by rw [h]; decide), ne z 94 h (by decide)]⟩, fun s b hs vb => (she s hs b vb).1, fun K' hK' s1 j1 s b1 b ma1 f h1 h2 h3 h4 h5 h6 h7 h8 => ?_⟩
  have etc : K' tc = K tc := hK' tc 85 t1.2.1 (by decide)
  exact fitE uq mm km hIt oI oR ⟨mfi, kfi, vfi⟩ c0 c7 a0 a1 a2 k0 k1 k3 t1 ⟨mt', kt, vt⟩ ⟨mp', kp, vp⟩ ⟨mpl, kpl, vpl⟩ ⟨mbp, kbp, vbp⟩ ⟨mfp, kfp, vfp⟩ cel she eA eC (fun _ _ hx hy => cb300 c7.2.2 hr tt hx hy) (fun _ _ hx hy => by rw [etc]; exact tcEq c7.2.2 hr tt m3 hx hy) (by rw [etc]; exact tcRg hr tt m3) (fun z r h hz => by rw [hK' z r h (fun q => hz (exWK r q)), hK z r h hz]) h1 h2 h3 h4 h5 h6 h7 h8
