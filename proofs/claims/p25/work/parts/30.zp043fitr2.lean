set_option maxHeartbeats 4000000 in
theorem fitE {L : List Nat} {C : Nat → Nat} {x mo : Nat} {I K : hI} {J : hJ} {R : hR} {fi ru w al pa ma co ct hc tc sh m8 n9 y10 o11 e12 w13 f14 u15 t16 t p pl bp fp : Nat} (uq : Uq L C) (mm : mo ∈ L) (km : C mo = 11) {It : hI} (hIt : ∀ z r, C z = r → r ∉ exI → It z = I z) (oI : OkI L C It) (oR : OkR L C R)
    (f0 : At L C R x 3 fi 3) (r0 : At L C R x 0 ru 6) (v8 : At L C R ru 8 w 38) (a0 : At L C R x 1 al 0) (a1 : At L C R al 0 pa 40) (a2 : At L C R mo 17 ma 79) (c0 : At L C R x 2 co 2) (c1 : At L C R co 0 ct 41) (c3 : At L C R mo 19 hc 80) (t1 : At L C R mo 32 tc 85) (i3 : At L C R fi 3 t 43) (i6 : At L C R fi 6 p 44) (i38 : At L C R mo 38 pl 90) (i39 : At L C R mo 39 bp 91) (i43 : At L C R mo 43 fp 92) (cel : CelM L C x mo R sh m8 n9 y10 o11 e12 w13 f14 u15 t16) (she : ShEq I R sh m8 n9 y10 o11 e12 w13 f14 u15 t16) (eA : EqA I mo al pa ma) (eC : I ct = I hc)
    (hcb : ∀ x y : Int32, 0 ≤ x.toInt ∧ x.toInt ≤ 6 → 0 ≤ y.toInt ∧ y.toInt ≤ 6 → -1 ≤ (F_X6_costBetween ru x y I J R).toInt ∧ (F_X6_costBetween ru x y I J R).toInt ≤ 300)
    (htq : ∀ x y : Int32, 0 ≤ x.toInt ∧ x.toInt ≤ 6 → 0 ≤ y.toInt ∧ y.toInt ≤ 6 → (F_X6_costBetween ru x y I J R).toInt = if (K tc (7 * x.toNatClampNeg + y.toNatClampNeg)).toInt < 1000000 then (K tc (7 * x.toNatClampNeg + y.toNatClampNeg)).toInt else -1) (htr : ∀ q, q < 49 → 0 ≤ (K tc q).toInt ∧ (K tc q).toInt ≤ 1000000)
    (hK : ∀ z r, C z = r → r ∉ exK → K z = I z)
    {s1 j1 s b1 b ma1 f : Nat} (hs1 : s1 < 20) (hs : s < 20) (vb1 : R sh s1 = some b1) (vb : R sh s = some b) (hj6 : j1 < 6) (hj : (j1 : Int) < (I b1 1).toInt) (va : R b1 0 = some ma1) (vf : R ma1 j1 = some f) : FitB I K J R mo fi f b s y10 (6 * s1 + j1) t p pl bp fp := by
  obtain ⟨d4, d8, d9, d10, d11, d12, -, -, -, -⟩ := cel
  have r50 : ∀ {a : Nat}, a ∈ L → C a = 5 → Rg (I a 0) 0 99 := fun {a} h k => by rw [← hIt a 5 k (by decide)]; exact rf_5_0 oI h k
  have r51 : ∀ {a : Nat}, a ∈ L → C a = 5 → Rg (I a 1) 0 6 := fun {a} h k => by rw [← hIt a 5 k (by decide)]; exact rf_5_1 oI h k
  have r52 : ∀ {a : Nat}, a ∈ L → C a = 5 → Rg (I a 2) 0 4 := fun {a} h k => by rw [← hIt a 5 k (by decide)]; exact rf_5_2 oI h k
  have r71' : ∀ {a : Nat}, a ∈ L → C a = 7 → Rg (I a 1) 0 6 := fun {a} h k => by rw [← hIt a 7 k (by decide)]; exact rf_7_1 oI h k
  -- the class's cells
  obtain ⟨z, mz, vz, kz⟩ := rf_3_0 oR f0.1 f0.2.1
  obtain rfl : z = ru := uq _ mz _ r0.1 (kz.trans r0.2.1.symm) (by rw [kz]; rfl)
  obtain ⟨z2, mz2, vz2, kz2⟩ := rf_3_1 oR f0.1 f0.2.1
  obtain rfl : z2 = al := uq _ mz2 _ a0.1 (kz2.trans a0.2.1.symm) (by rw [kz2]; rfl)
  obtain ⟨z3, mz3, vz3, kz3⟩ := rf_3_2 oR f0.1 f0.2.1
  obtain rfl : z3 = co := uq _ mz3 _ c0.1 (kz3.trans c0.2.1.symm) (by rw [kz3]; rfl)
  obtain ⟨mt, kt, vt⟩ := i3
  obtain ⟨mp, kp, vp⟩ := i6
  have kfi := f0.2.1
  obtain ⟨mb1, kb1⟩ := shapeAt oR d4.1 d4.2.1 hs1 vb1
  obtain ⟨mb, kb⟩ := shapeAt oR d4.1 d4.2.1 hs vb
  obtain ⟨ma2, m1, m2, m3⟩ := rf_7_0 oR mb1 kb1
  obtain rfl : ma2 = ma1 := Option.some.inj (m2.symm.trans va)
  obtain ⟨mab, n1, n2, n3⟩ := rf_7_0 oR mb kb
  have memb : ∀ (q m : Nat), q ∈ L → C q = 56 → m < 6 → ∃ c, c ∈ L ∧ R q m = some c ∧ C c = 5 := fun q m h1 h2 h3 => by
    obtain ⟨c, g1, g2, g3⟩ := oR q h1 m (by rw [h2]; exact h3) (by rw [h2]; exact fun e => absurd (show (6 : Nat) = 0 from e) (by decide))
    rw [h2] at g3
    exact ⟨c, g1, g2, Nat.succ.inj g3⟩
  obtain ⟨f', mf, vf', kf⟩ := memb ma2 j1 m1 m3 hj6
  obtain rfl : f' = f := Option.some.inj (vf'.symm.trans vf)
  obtain ⟨fs, mfs, vfs, kfs⟩ := rf_5_3 oR mf kf
  obtain ⟨ff, mff, vff, kff⟩ := rf_5_7 oR mf kf
  have hcm : ∀ m, ∃ c cs, m < 6 → c ∈ L ∧ R mab m = some c ∧ C c = 5 ∧ cs ∈ L ∧ R c 3 = some cs ∧ C cs = 54 := fun m => by
    by_cases h : m < 6
    · obtain ⟨c, g1, g2, g3⟩ := memb mab m n1 n3 h
      obtain ⟨cs, g4, g5, g6⟩ := rf_5_3 oR g1 g3
      exact ⟨c, cs, fun _ => ⟨g1, g2, g3, g4, g5, g6⟩⟩
    · exact ⟨0, 0, fun q => absurd q h⟩
  obtain ⟨cm, hcm⟩ : ∃ cm : Nat → Nat, ∀ m, ∃ cs, m < 6 → cm m ∈ L ∧ R mab m = some (cm m) ∧ C (cm m) = 5 ∧ cs ∈ L ∧ R (cm m) 3 = some cs ∧ C cs = 54 := ⟨fun m => (hcm m).choose, fun m => (hcm m).choose_spec⟩
  obtain ⟨csm, hcm⟩ : ∃ csm : Nat → Nat, ∀ m, m < 6 → cm m ∈ L ∧ R mab m = some (cm m) ∧ C (cm m) = 5 ∧ csm m ∈ L ∧ R (cm m) 3 = some (csm m) ∧ C (csm m) = 54 := ⟨fun m => (hcm m).choose, fun m => (hcm m).choose_spec⟩
  have rg6 : ∀ c, c ∈ L → C c = 54 → ∀ d, d < 4 → 0 ≤ (I c d).toInt ∧ (I c d).toInt ≤ 6 := fun c h1 h2 d hd => by
    have q := oI c h1 d (by rw [h2]; exact hd)
    rw [hIt c 54 h2 (by decide)] at q
    rw [h2] at q
    exact ⟨q.1, q.2.1⟩
  have gf2 := r52 mf kf
  have gf1 := r51 mf kf
  have gf0 := r50 mf kf
  have gb := r71' mb kb
  obtain ⟨af, haf⟩ : ∃ af, af = (I f' 2).toNatClampNeg := ⟨_, rfl⟩
  have haf1 : (I f' 2).toInt = af := by rw [haf]; exact (nat_of gf2.1).symm
  have haf4 : af ≤ 4 := by have := gf2.2; omega
  obtain ⟨n, hn⟩ : ∃ n, n = (I b 1).toNatClampNeg := ⟨_, rfl⟩
  have hn1 : (I b 1).toInt = n := by rw [hn]; exact (nat_of gb.1).symm
  have hn6 : n ≤ 6 := by have := gb.2; omega
  have tri : ∀ c r, C c = r → r ≠ 3 → r ≠ 43 → r ≠ 44 → c ≠ fi ∧ c ≠ t ∧ c ≠ p := fun c r h z1 z2 z3 => ⟨ne_role h kfi z1, ne_role h kt z2, ne_role h kp z3⟩
  have hhas : ∀ (Ia : hI) (y : Int32), Nea fi t p I Ia → F_X0_has z2 (I f' 0) y Ia J R = F_X0_has z2 (I f' 0) y I J R := fun Ia y hn => by
    obtain ⟨h1, h2, h3⟩ := tri z2 0 kz2 (by decide) (by decide) (by decide)
    obtain ⟨h4, h5, h6⟩ := tri pa 40 a1.2.1 (by decide) (by decide) (by decide)
    exact has_congr a1.2.2 eA.2.1 (hn _ h1 h2 h3) (hn _ h4 h5 h6)
  have hmc : ∀ m, m < 6 → R mab m = some (cm m) ∧ Fcx R fi z w t p z3 ct f' (cm m) fs (csm m) ∧ (I (cm m) 2).toInt = ((I (cm m) 2).toNatClampNeg : Nat) ∧ (I (cm m) 2).toNatClampNeg ≤ 4 ∧ (∀ d i, d < 4 → i < 4 → -1 ≤ tcC z fs (csm m) I J R d i ∧ tcC z fs (csm m) I J R d i ≤ 300) ∧ (-1 ≤ (F_X6_costBetween z (I (cm m) 1) (I f' 1) I J R).toInt ∧ (F_X6_costBetween z (I (cm m) 1) (I f' 1) I J R).toInt ≤ 300) := fun m hm => by
    obtain ⟨g1, g2, g3, g4, g5, g6⟩ := hcm m hm
    have gc2 := r52 g1 g3
    have nn := nat_of gc2.1
    refine ⟨g2, ⟨vz, vz3, vt, vp, c1.2.2, v8.2.2, vfs, g5, ⟨ne_role kt kfi (by decide), ne_role kp kfi (by decide), ne_role kt kp (by decide)⟩, tri w 38 v8.2.1 (by decide) (by decide) (by decide), tri ct 41 c1.2.1 (by decide) (by decide) (by decide), tri f' 5 kf (by decide) (by decide) (by decide), tri (cm m) 5 g3 (by decide) (by decide) (by decide), tri fs 54 kfs (by decide) (by decide) (by decide), tri (csm m) 54 g6 (by decide) (by decide) (by decide)⟩, nn.symm, by have := gc2.2; omega, fun d i hd hi => ?_, hcb _ _ (r51 g1 g3) gf1⟩
    unfold tcC
    rw [if_pos ⟨hd, hi⟩]
    exact hcb _ _ (rg6 fs mfs kfs d hd) (rg6 (csm m) g4 g6 i hi)
  -- the model's cells
  obtain ⟨mpl, kpl, vpl⟩ := i38
  obtain ⟨mbp, kbp, vbp⟩ := i39
  obtain ⟨mfp, kfp, vfp⟩ := i43
  have tr4 : ∀ c r, C c = r → r ≠ 11 → r ≠ 90 → r ≠ 91 → c ≠ mo ∧ c ≠ pl ∧ c ≠ bp := fun c r h z1 z2 z3 => ⟨ne_role h km z1, ne_role h kpl z2, ne_role h kbp z3⟩
  have cx : Mcx R mo y10 pl o11 hc tc e12 n9 ma bp := ⟨d10.2.2, vpl, d11.2.2, c3.2.2, t1.2.2, d12.2.2, d9.2.2, a2.2.2, vbp, ⟨ne_role kpl km (by decide), ne_role kbp km (by decide), ne_role kpl kbp (by decide)⟩, tr4 y10 72 d10.2.1 (by decide) (by decide) (by decide), tr4 o11 73 d11.2.1 (by decide) (by decide) (by decide), tr4 hc 80 c3.2.1 (by decide) (by decide) (by decide), tr4 tc 85 t1.2.1 (by decide) (by decide) (by decide), tr4 e12 74 d12.2.1 (by decide) (by decide) (by decide), tr4 n9 71 d9.2.1 (by decide) (by decide) (by decide), tr4 ma 79 a2.2.1 (by decide) (by decide) (by decide)⟩
  have cy : Fcm R mo y10 pl o11 hc tc e12 n9 ma bp fp m8 := ⟨d8.2.2, vfp, ⟨ne_role kfp km (by decide), ne_role kfp kpl (by decide), ne_role kfp kbp (by decide)⟩, ⟨ne_role d8.2.1 km (by decide), ne_role d8.2.1 kpl (by decide), ne_role d8.2.1 kbp (by decide), ne_role d8.2.1 kfp (by decide)⟩, ne_role d10.2.1 kfp (by decide), ne_role d11.2.1 kfp (by decide), ne_role c3.2.1 kfp (by decide), ne_role t1.2.1 kfp (by decide), ne_role d12.2.1 kfp (by decide), ne_role d9.2.1 kfp (by decide), ne_role a2.2.1 kfp (by decide)⟩
  have K9 := hK n9 71 d9.2.1 (by decide)
  have K10 := hK y10 72 d10.2.1 (by decide)
  have K11 := hK o11 73 d11.2.1 (by decide)
  have K12 := hK e12 74 d12.2.1 (by decide)
  have K8 := hK m8 70 d8.2.1 (by decide)
  have K17 := hK ma 79 a2.2.1 (by decide)
  have K19 := hK hc 80 c3.2.1 (by decide)
  have rgI : ∀ (a r N : Nat) (lo hi : Int), a ∈ L → C a = r → (∀ q, q < N → q < rN r) → (∀ q, rLo r q = lo ∧ rHi r q = hi) → r ∉ exI → ∀ q, q < N → lo ≤ (I a q).toInt ∧ (I a q).toInt ≤ hi := fun a r N lo hi h1 h2 h3 h4 h5 q hq => by
    have g := oI a h1 q (by rw [h2]; exact h3 q hq)
    rw [hIt a r h2 h5] at g
    rw [h2, (h4 q).1, (h4 q).2] at g
    exact ⟨g.1, g.2.1⟩
  have r72 := rgI y10 72 120 0 4 d10.1 d10.2.1 (fun q h => h) (fun q => ⟨rfl, rfl⟩) (by decide)
  have r73 := rgI o11 73 480 0 6 d11.1 d11.2.1 (fun q h => h) (fun q => ⟨rfl, rfl⟩) (by decide)
  have r74 := rgI e12 74 120 0 6 d12.1 d12.2.1 (fun q h => h) (fun q => ⟨rfl, rfl⟩) (by decide)
  have r71 := rgI n9 71 120 0 99 d9.1 d9.2.1 (fun q h => h) (fun q => ⟨rfl, rfl⟩) (by decide)
  obtain ⟨-, shf⟩ := she s1 hs1 b1 vb1
  have eqf := shf j1 hj6 hj ma2 f' fs ff m2 vf' vfs vff
  obtain ⟨q1, q2, q3, q4, -, -, -, -⟩ := eqf
  obtain ⟨sb, shc⟩ := she s hs b vb
  have mrg : ∀ m, m < 6 → Mrg K y10 o11 tc e12 (6 * s1 + j1) (6 * s + m) af (K y10 (6 * s + m)).toNatClampNeg := fun m hm => by
    have y1 := r72 (6 * s + m) (by omega)
    rw [← K10] at y1
    have yn := nat_of y1.1
    refine ⟨by omega, by omega, by rw [K10, ← q3]; exact haf1, haf4, yn.symm, by omega, by rw [K11]; exact r73, htr, by rw [K12]; exact r74⟩
  have hsv : ∀ m, m < n → svC z2 z ct f' fs (cm m) (csm m) af (I (cm m) 2).toNatClampNeg I J R = svO o11 hc tc e12 n9 ma (6 * s1 + j1) (6 * s + m) af (K y10 (6 * s + m)).toNatClampNeg K ∧ (I (cm m) 2).toNatClampNeg = (K y10 (6 * s + m)).toNatClampNeg := fun m hm => by
    obtain ⟨g1, g2, g3, g4, g5, g6⟩ := hcm m (by omega)
    obtain ⟨cf, mcf, vcf, kcf⟩ := rf_5_7 oR g1 g3
    obtain ⟨p1, p2, p3, p4, -, -, -, -⟩ := shc m (by omega) (by omega) mab (cm m) (csm m) cf n2 g2 g5 vcf
    have ea : (I (cm m) 2).toNatClampNeg = (K y10 (6 * s + m)).toNatClampNeg := by rw [p3, K10]
    have gc2 := r52 g1 g3
    have nn := nat_of gc2.1
    rw [← ea]
    refine ⟨svEq haf4 (by have := gc2.2; omega) (by rw [K9]; exact q1) (by rw [K9]; exact p1) (by rw [K12]; exact q2) (by rw [K12]; exact p2) (fun d hd => by rw [K11]; exact q4 d (by omega)) (fun d hd => by rw [K11]; exact p4 d (by omega)) (by rw [K19]; exact eC) gf1 (r51 g1 g3) (rg6 fs mfs kfs) (rg6 (csm m) g4 g6) gf0 (r50 g1 g3) htq htr (fun a' b' h1 h2 => by rw [K17]; exact hasT eA a1.2.2 h1 h2), rfl⟩
  obtain ⟨acs, hacs⟩ : ∃ acs : Nat → Nat, acs = fun m => (I (cm m) 2).toNatClampNeg := ⟨_, rfl⟩
  obtain ⟨acm, hacm⟩ : ∃ acm : Nat → Nat, acm = fun m => (K y10 (6 * s + m)).toNatClampNeg := ⟨_, rfl⟩
  have hfo : foM (fun m => svC z2 z ct f' fs (cm m) (csm m) af (acs m) I J R) n 0 none = foM (fun m => svO o11 hc tc e12 n9 ma (6 * s1 + j1) (6 * s + m) af (acm m) K) n 0 none := foM_congr n 0 none (fun k _ h2 => by rw [hacs, hacm]; exact (hsv k (by omega)).1)
  have eoC : foM (fun m => svC z2 z ct f' fs (cm m) (csm m) af (acs m) I J R) n 0 none = oC fi f' b I J R := by
    unfold oC
    rw [← hn]
    refine foM_congr n 0 none (fun m _ hm => ?_)
    obtain ⟨g1, g2, g3, g4, g5, g6⟩ := hcm m (by omega)
    simp only [vz2, vz, vz3, c1.2.2, vfs, n2, g2, g5, Option.getD_some]
    rw [haf, hacs]
  refine ⟨foM (fun m => svC z2 z ct f' fs (cm m) (csm m) af (acs m) I J R) n 0 none, acs, acm, eoC, fun q hq => ?_, fun Ia h1 h2 => ?_, fun J' Ka xF xs hF hxs h1 h2 => ?_⟩
  · rcases foM_lt n 0 none q hq with h | ⟨-, h⟩
    · cases h
    · have h6 : q.2.1 < 6 := by omega
      obtain ⟨g1, g2, g3, g4, g5, g6⟩ := hcm q.2.1 h6
      have gc2 := r52 g1 g3
      have nn := nat_of gc2.1
      have e2 : acs q.2.1 = acm q.2.1 := by rw [hacs, hacm]; exact (hsv q.2.1 (by omega)).2
      have y1 := r72 (6 * s + q.2.1) (by omega)
      rw [← K10] at y1
      have ln := foM_ln (acs := acs) n 0 none (fun k _ h2 => by
        show LnO (acs k) (svC z2 z ct f' fs (cm k) (csm k) af (acs k) I J R)
        unfold svC
        cases hx : stC z2 z f' (cm k) I J R with
        | none => intro q h; cases h
        | some s0 =>
          have := tf_ln (af := af) (tc := tcC z fs (csm k) I J R) (hc := hcC ct (csm k) I) (acs k) 0 0 s0 1000000 [] (fun j hj => by simp at hj)
          simp only [List.length_nil, Nat.zero_add] at this
          exact this) (fun q h => by cases h) q hq
      have bd1 := foM_p (P := fun z => 0 ≤ z ∧ z ≤ 1522) n 0 none (fun k _ h2 q hq => by
        have hq : svC z2 z ct f' fs (cm k) (csm k) af (acs k) I J R = some q := hq
        unfold svC at hq
        obtain ⟨g1, g2, g3, g4, g5, g6⟩ := hcm k (by omega)
        obtain ⟨u1, u2', u3, u4, u5, u6⟩ := hmc k (by omega)
        have ht : ∀ d i, tcC z fs (csm k) I J R d i ≤ 300 := fun d i => by
          by_cases h : d < 4 ∧ i < 4
          · exact (u5 d i h.1 h.2).2
          · unfold tcC; rw [if_neg h]; decide
        rcases startE (J := J) vz vz2 v8.2.2 (fun _ _ _ _ => rfl : Nea fi t p I I) (tri w 38 v8.2.1 (by decide) (by decide) (by decide)) (tri f' 5 kf (by decide) (by decide) (by decide)) (tri (cm k) 5 g3 (by decide) (by decide) (by decide)) rfl u6 with ⟨s1', -⟩ | ⟨s0, s1', -, s3', s4'⟩
        · rw [s1'] at hq; cases hq
        · rw [s1'] at hq
          have l1 := tf_lo hq
          have l2 := (tf_bo (af := af) (hc := hcC ct (csm k) I) ht (acs k) 0 0 s0 [] _ _ hq).2
          have l3 : acs k ≤ 4 := by rw [hacs]; exact u4
          exact ⟨by omega, by omega⟩) (fun q h => by cases h) q hq
      refine ⟨bd1, by omega, h6, e2, by rw [hacs]; show (I (cm q.2.1) 2).toNatClampNeg ≤ 4; have := gc2.2; omega, fun mab' c h3 h4 => ?_, by rw [hacm]; exact (nat_of y1.1).symm, ln.1, ln.2⟩
      obtain rfl : mab' = mab := Option.some.inj (h3.symm.trans n2)
      obtain rfl : c = cm q.2.1 := Option.some.inj (h4.symm.trans g2)
      rw [hacs]
      exact nn.symm
  · exact findE vz2 n2 (tri b 7 kb (by decide) (by decide) (by decide)) hn1 hn6 haf1 haf4 (fun m hm => by rw [hacs]; exact hmc m hm) hhas h1 h2
  · rw [hfo]
    exact findFitE (o0 := none) cx cy hF hxs hs (by rw [K8, ← sb]; exact hn1) hn6 (fun m hm => by rw [hacm]; exact mrg m hm) (by rw [K9]; exact r71) (Or.inr ⟨h1, h2⟩)
