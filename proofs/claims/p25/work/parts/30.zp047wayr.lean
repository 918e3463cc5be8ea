/-! what the class finds depends on these cells alone -/
theorem cbw2 {ru w : Nat} {I I0 : hI} {J J0 : hJ} {R R0 : hR} {x y : Int32} (v8 : R ru 8 = some w) (v80 : R0 ru 8 = some w) (h : I w = I0 w) : F_X6_costBetween ru x y I J R = F_X6_costBetween ru x y I0 J0 R0 := by
  simp only [F_X6_costBetween, F_X6_costBetween_26, nm, v8, v80, Option.getD_some, h]
theorem has2 {al pa : Nat} {x1 x2 : Int32} {I I0 : hI} {J J0 : hJ} {R R0 : hR} (v : R al 0 = some pa) (v0 : R0 al 0 = some pa) (hs : 0 ≤ (I0 al 1).toInt ∧ (I0 al 1).toInt ≤ 30) (h1 : I al 1 = I0 al 1) (h2 : I pa = I0 pa) : F_X0_has al x1 x2 I J R = F_X0_has al x1 x2 I0 J0 R0 := by
  have a := hasE (J := J) (x1 := x1) (x2 := x2) (I := I) v (by rw [h1]; exact hs)
  have b := hasE (J := J0) (x1 := x1) (x2 := x2) (I := I0) v0 hs
  rw [h1, h2] at a
  rcases a with ⟨a1, a2⟩ | ⟨a1, i, a2, a3⟩
  · rcases b with ⟨b1, b2⟩ | ⟨b1, i, b2, b3⟩
    · rw [a1, b1]
    · exact absurd b3 (a2 i b2)
  · rcases b with ⟨b1, b2⟩ | ⟨b1, -⟩
    · exact absurd a3 (b2 i a2)
    · rw [a1, b1]
def GSame (fi ru w al pa co ct : Nat) (I I' : hI) (R R' : hR) : Prop := (R fi 0 = some ru ∧ R' fi 0 = some ru) ∧ (R fi 1 = some al ∧ R' fi 1 = some al) ∧ (R fi 2 = some co ∧ R' fi 2 = some co) ∧ (R co 0 = some ct ∧ R' co 0 = some ct) ∧ (R ru 8 = some w ∧ R' ru 8 = some w) ∧ (R al 0 = some pa ∧ R' al 0 = some pa) ∧ I' w = I w ∧ I' al 1 = I al 1 ∧ I' pa = I pa ∧ I' ct = I ct ∧ (0 ≤ (I al 1).toInt ∧ (I al 1).toInt ≤ 30)
def MSame (I I' : hI) (R R' : hR) (b : Nat) : Prop := I' b 1 = I b 1 ∧ R' b 0 = R b 0 ∧ ∀ ma, R b 0 = some ma → ∀ j, j < 6 → R' ma j = R ma j ∧ ∀ c, R ma j = some c → I' c 0 = I c 0 ∧ I' c 1 = I c 1 ∧ I' c 2 = I c 2 ∧ R' c 3 = R c 3 ∧ ∀ s, R c 3 = some s → I' s = I s
section CONG
variable {fi ru w al pa co ct f fs c cs af ac b b1 ma ma1 j : Nat} {I I' : hI} {J J' : hJ} {R R' : hR}
theorem svC_congr (g : GSame fi ru w al pa co ct I I' R R') (f0 : I' f 0 = I f 0) (f1 : I' f 1 = I f 1) (c0 : I' c 0 = I c 0) (c1 : I' c 1 = I c 1) (hf : I' fs = I fs) (hc : I' cs = I cs) : svC al ru ct f fs c cs af ac I' J' R' = svC al ru ct f fs c cs af ac I J R := by
  obtain ⟨-, -, -, -, v8, va, ew, ea, ep, ec, hs⟩ := g
  have e1 : ∀ x y : Int32, F_X6_costBetween ru x y I' J' R' = F_X6_costBetween ru x y I J R := fun x y => cbw2 v8.2 v8.1 ew
  have e2 : ∀ x y : Int32, F_X0_has al x y I' J' R' = F_X0_has al x y I J R := fun x y => has2 va.2 va.1 hs ea ep
  have e3 : tcC ru fs cs I' J' R' = tcC ru fs cs I J R := by
    funext d i
    unfold tcC
    rw [e1, hf, hc]
  have e4 : hcC ct cs I' = hcC ct cs I := by
    funext i
    unfold hcC
    rw [ec, hc]
  have e5 : stC al ru f c I' J' R' = stC al ru f c I J R := by
    unfold stC
    rw [f0, f1, c0, c1, e1, e2]
  unfold svC
  rw [e3, e4, e5]
theorem oC_congr (g : GSame fi ru w al pa co ct I I' R R') (m1 : MSame I I' R R' b1) (m2 : MSame I I' R R' b) (hb1 : R b1 0 = some ma1) (hj : j < 6) (hf : R ma1 j = some f) (hfs : R f 3 = some fs) (hn : (I b 1).toNatClampNeg ≤ 6) (hb : R b 0 = some ma) (hm : ∀ m, m < 6 → ∃ c s, R ma m = some c ∧ R c 3 = some s) : oC fi f b I' J' R' = oC fi f b I J R := by
  have g0 := g
  obtain ⟨v0, v1, v2, vc, -⟩ := g
  obtain ⟨-, q⟩ := m1.2.2 ma1 hb1 j hj
  obtain ⟨f0, f1, f2, f3, f4⟩ := q f hf
  unfold oC
  rw [m2.1]
  refine foM_congr _ 0 none (fun m _ hm1 => ?_)
  obtain ⟨c, s, hc, hs⟩ := hm m (by omega)
  obtain ⟨q1, q2⟩ := m2.2.2 ma hb m (by omega)
  obtain ⟨c0, c1, c2, c3, c4⟩ := q2 c hc
  have hb' := m2.2.1.trans hb
  have hc' := q1.trans hc
  have hs' := c3.trans hs
  have hfs' := f3.trans hfs
  simp only [v0.1, v0.2, v1.1, v1.2, v2.1, v2.2, vc.1, vc.2, hb, hb', hc, hc', hs, hs', hfs, hfs', f2, c2, Option.getD_some]
  exact svC_congr g0 f0 f1 c0 c1 (f4 fs hfs) (c4 s hs)
end CONG
def FitC (fi f b t p : Nat) (I : hI) (J : hJ) (R : hR) : Prop := ∃ acs : Nat → Nat, ∀ Ia : hI, Nea fi t p I Ia → (∀ k, k ≠ 4 → k ≠ 5 → Ia fi k = I fi k) → ∃ Ic, F_X3_find fi f b Ia J R = (if (oC fi f b I J R).isSome = true then 1 else 0, (Ic, J, R)) ∧ Cf fi t p acs I Ic (oC fi f b I J R)
theorem FitB.C {I K : hI} {J : hJ} {R : hR} {mo fi f b s y10 F t p pl bp fp : Nat} (h : FitB I K J R mo fi f b s y10 F t p pl bp fp) : FitC fi f b t p I J R := by
  obtain ⟨o, acs, acm, eo, -, cl, -⟩ := h
  subst eo
  exact ⟨acs, cl⟩
section CPAR
variable {I I' : hI} {J J' : hJ} {R R' : hR} {fi b1 b t p ma1 n : Nat}
theorem costPar (hb1 : b1 ≠ fi ∧ b1 ≠ t ∧ b1 ≠ p) (va : R b1 0 = some ma1) (va' : R' b1 0 = some ma1) (hn : (I b1 1).toInt = n) (hn' : (I' b1 1).toInt = n) (hn6 : n ≤ 6)
    (hfam : ∀ j, j < n → ∃ f, R ma1 j = some f ∧ R' ma1 j = some f ∧ FitC fi f b t p I J R ∧ FitC fi f b t p I' J' R' ∧ oC fi f b I' J' R' = oC fi f b I J R) :
    ∀ (r g j : Nat) (Ia Ia' : hI) (xa xj : Int32), xj.toInt = j → j + r = n → r < g → FrC fi t p I Ia → FrC fi t p I' Ia' →
      ∃ ra Ic Ic', F_X3_costOfAll_5 fi b1 b g Ia J R xa xj = (ra, (Ic, J, R)) ∧ F_X3_costOfAll_5 fi b1 b g Ia' J' R' xa xj = (ra, (Ic', J', R')) ∧ FrC fi t p I Ic ∧ FrC fi t p I' Ic' := by
  intro r
  induction r with
  | zero =>
    intro g j Ia Ia' xa xj hj hr hg hI hI'
    obtain ⟨g', rfl⟩ : ∃ g', g = g' + 1 := ⟨g - 1, by omega⟩
    rw [F_X3_costOfAll_5_s, F_X3_costOfAll_5_s]
    simp only [B_X3_costOfAll_5, nm, nmU]
    rw [hI.1 b1 hb1.1 hb1.2.1 hb1.2.2, hI'.1 b1 hb1.1 hb1.2.1 hb1.2.2, if_pos (show I b1 1 ≤ xj by rw [ile, hn, hj]; omega), if_pos (show I' b1 1 ≤ xj by rw [ile, hn', hj]; omega)]
    exact ⟨xa, Ia, Ia', rfl, rfl, hI, hI'⟩
  | succ r ih =>
    intro g j Ia Ia' xa xj hj hr hg hI hI'
    obtain ⟨g', rfl⟩ : ∃ g', g = g' + 1 := ⟨g - 1, by omega⟩
    obtain ⟨f, vf, vf', ⟨acs, cl⟩, ⟨acs', cl'⟩, eo⟩ := hfam j (by omega)
    rw [F_X3_costOfAll_5_s, F_X3_costOfAll_5_s]
    simp only [B_X3_costOfAll_5, nm, nmU, va, va', vf, vf', Option.getD_some, clamp_toInt hj]
    rw [hI.1 b1 hb1.1 hb1.2.1 hb1.2.2, hI'.1 b1 hb1.1 hb1.2.1 hb1.2.2, if_neg (show ¬ I b1 1 ≤ xj by rw [ile, hn, hj]; omega), if_neg (show ¬ I' b1 1 ≤ xj by rw [ile, hn', hj]; omega)]
    obtain ⟨Ic, q1, q2⟩ := cl Ia hI.1 hI.2
    obtain ⟨Ic', q3, q4⟩ := cl' Ia' hI'.1 hI'.2
    rw [eo] at q3 q4
    have hj1 : (xj + 1).toInt = ((j + 1 : Nat) : Int) := by rw [add1 (b := 6) (by omega) (by omega), hj]; omega
    rw [q1, q3]
    dsimp only
    generalize oC fi f b I J R = o at *
    cases o with
    | none =>
      rw [if_neg (show ¬ (none : Option (Int × Nat × List Nat)).isSome = true by decide), if_neg (show ¬ (0 : Int32) = 1 by decide)]
      exact ⟨-6, Ic, Ic', rfl, rfl, ⟨q2.1, q2.2.1⟩, ⟨q4.1, q4.2.1⟩⟩
    | some q =>
      rw [if_pos (show (some q).isSome = true from rfl), if_pos (show (1 : Int32) = 1 from rfl)]
      have e4 : Ic fi 4 = Ic' fi 4 := by
        rcases q2.2.2 with ⟨z, -⟩ | ⟨z, m, l, z1, z2, -⟩
        · cases z
        · cases z1
          rcases q4.2.2 with ⟨y, -⟩ | ⟨y, m', l', y1, y2, -⟩
          · cases y
          · cases y1
            exact Int32.toInt_inj.mp (by rw [z2, y2])
      rw [e4]
      exact ih g' (j + 1) Ic Ic' (xa + Ic' fi 4) (xj + 1) hj1 (by omega) (by omega) ⟨q2.1, q2.2.1⟩ ⟨q4.1, q4.2.1⟩
end CPAR
/-- what a face's members cost another face, in the class -/
noncomputable def cP (fi sh q : Nat) (u : hU) : Int32 := (F_X3_costOfAll fi ((u.2.2 sh (10 + q % 10)).getD 0) ((u.2.2 sh (10 + q / 10)).getD 0) u.1 u.2.1 u.2.2).1
/-- the class's cells -/
def ClF (L : List Nat) (C : Nat → Nat) (x : Nat) (R : hR) (fi t p sh ru w al pa co ct : Nat) : Prop := At L C R x 3 fi 3 ∧ At L C R fi 3 t 43 ∧ At L C R fi 6 p 44 ∧ At L C R x 4 sh 57 ∧ At L C R fi 0 ru 6 ∧ At L C R ru 8 w 38 ∧ At L C R fi 1 al 0 ∧ At L C R al 0 pa 40 ∧ At L C R fi 2 co 2 ∧ At L C R co 0 ct 41
theorem ClF.get {L : List Nat} {C : Nat → Nat} {x : Nat} {R : hR} (oR : OkR L C R) (mx : x ∈ L) (kx : C x = 10) : ∃ fi t p sh ru w al pa co ct, ClF L C x R fi t p sh ru w al pa co ct := by
  obtain ⟨fi, m1, v1, k1⟩ := rf_10_3 oR mx kx
  obtain ⟨t, m2, v2, k2⟩ := rf_3_3 oR m1 k1
  obtain ⟨p, m3, v3, k3⟩ := rf_3_6 oR m1 k1
  obtain ⟨sh, m4, v4, k4⟩ := rf_10_4 oR mx kx
  obtain ⟨ru, m5, v5, k5⟩ := rf_3_0 oR m1 k1
  obtain ⟨w, m6, v6, k6⟩ := rf_6_8 oR m5 k5
  obtain ⟨al, m7, v7, k7⟩ := rf_3_1 oR m1 k1
  obtain ⟨pa, m8, v8, k8⟩ := rf_0_0 oR m7 k7
  obtain ⟨co, m9, v9, k9⟩ := rf_3_2 oR m1 k1
  obtain ⟨ct, m10, v10, k10⟩ := rf_2_0 oR m9 k9
  exact ⟨fi, t, p, sh, ru, w, al, pa, co, ct, ⟨m1, k1, v1⟩, ⟨m2, k2, v2⟩, ⟨m3, k3, v3⟩, ⟨m4, k4, v4⟩, ⟨m5, k5, v5⟩, ⟨m6, k6, v6⟩, ⟨m7, k7, v7⟩, ⟨m8, k8, v8⟩, ⟨m9, k9, v9⟩, ⟨m10, k10, v10⟩⟩
section COSTS
variable {L : List Nat} {C : Nat → Nat} {x mo : Nat} {I I' : hI} {J J' : hJ} {R R' : hR}
/-- the fits of all members of a shape by a shape -/
theorem famE (uq : Uq L C) (mx : x ∈ L) (kx : C x = 10) (mm : mo ∈ L) (km : C mo = 11) (oI : OkI L C I) (oR : OkR L C R) (rel : RF L C x mo (I, J, R)) {fi t p sh ru w al pa co ct : Nat} (cl : ClF L C x R fi t p sh ru w al pa co ct) {s1 s b1 b : Nat} (hs1 : s1 < 20) (hs : s < 20) (vb1 : R sh s1 = some b1) (vb : R sh s = some b) :
    (C b1 = 7 ∧ C b = 7 ∧ (0 ≤ (I b1 1).toInt ∧ (I b1 1).toInt ≤ 6) ∧ (0 ≤ (I b 1).toInt ∧ (I b 1).toInt ≤ 6)) ∧ ∃ ma1, R b1 0 = some ma1 ∧ ∀ j, j < (I b1 1).toNatClampNeg → ∃ f fs, R ma1 j = some f ∧ R f 3 = some fs ∧ FitC fi f b t p I J R := by
  obtain ⟨fi', t', p', pl, bp, fp, sh', m8, y10, K, f0, f3, f6, -, -, -, f4, -, -, -, -, -, hfit⟩ := fxE (I := I) (J1 := J) (I1 := I) uq mx kx mm km (It := I) (fun _ _ _ _ => rfl) oI oR rel oI (fun _ _ _ _ => rfl)
  obtain rfl : fi' = fi := Option.some.inj (f0.2.2.symm.trans cl.1.2.2)
  obtain rfl : t' = t := Option.some.inj (f3.2.2.symm.trans cl.2.1.2.2)
  obtain rfl : p' = p := Option.some.inj (f6.2.2.symm.trans cl.2.2.1.2.2)
  obtain rfl : sh' = sh := Option.some.inj (f4.2.2.symm.trans cl.2.2.2.1.2.2)
  obtain ⟨mb1, kb1⟩ := shapeAt oR f4.1 f4.2.1 hs1 vb1
  obtain ⟨mb, kb⟩ := shapeAt oR f4.1 f4.2.1 hs vb
  have g1 := rf_7_1 oI mb1 kb1
  have g2 := rf_7_1 oI mb kb
  obtain ⟨ma1, mma, vma, kma⟩ := rf_7_0 oR mb1 kb1
  refine ⟨⟨kb1, kb, g1, g2⟩, ma1, vma, fun j hj => ?_⟩
  have hn := nat_of g1.1
  have h6 : j < 6 := by have := g1.2; omega
  obtain ⟨f, mf, vf, kf⟩ := oR ma1 mma j (by rw [kma]; exact h6) (by rw [kma]; exact fun e => absurd (show (6 : Nat) = 0 from e) (by decide))
  rw [kma] at kf
  have kf : C f = 5 := Nat.succ.inj kf
  obtain ⟨fs, mfs, vfs, kfs⟩ := rf_5_3 oR mf kf
  exact ⟨f, fs, vf, vfs, (hfit K (fun _ _ _ _ => rfl) _ _ _ b1 b ma1 f hs1 hs vb1 vb h6 (by omega) vma vf).C⟩
theorem membE (oR : OkR L C R) {sh s b : Nat} (msh : sh ∈ L) (ksh : C sh = 57) (hs : s < 20) (vb : R sh s = some b) : ∃ ma, R b 0 = some ma ∧ ∀ m, m < 6 → ∃ c s, R ma m = some c ∧ R c 3 = some s := by
  obtain ⟨mb, kb⟩ := shapeAt oR msh ksh hs vb
  obtain ⟨ma, mma, vma, kma⟩ := rf_7_0 oR mb kb
  refine ⟨ma, vma, fun m hm => ?_⟩
  obtain ⟨f, mf, vf, kf⟩ := oR ma mma m (by rw [kma]; exact hm) (by rw [kma]; exact fun e => absurd (show (6 : Nat) = 0 from e) (by decide))
  rw [kma] at kf
  have kf : C f = 5 := Nat.succ.inj kf
  obtain ⟨fs, mfs, vfs, kfs⟩ := rf_5_3 oR mf kf
  exact ⟨f, fs, vf, vfs⟩
/-- the same costs in two states -/
theorem costE (uq : Uq L C) (mx : x ∈ L) (kx : C x = 10) (mm : mo ∈ L) (km : C mo = 11) (oI : OkI L C I) (oR : OkR L C R) (rel : RF L C x mo (I, J, R)) (oI' : OkI L C I') (oR' : OkR L C R') (rel' : RF L C x mo (I', J', R')) {fi t p sh ru w al pa co ct : Nat} (cl : ClF L C x R fi t p sh ru w al pa co ct) (cl' : ClF L C x R' fi t p sh ru w al pa co ct)
    (ew : I' w = I w) (ea : I' al 1 = I al 1) (ep : I' pa = I pa) (ec : I' ct = I ct) {s1 s b1 b : Nat} (hs1 : s1 < 20) (hs : s < 20) (vb1 : R sh s1 = some b1) (vb : R sh s = some b) (vb1' : R' sh s1 = some b1) (vb' : R' sh s = some b) (m1 : MSame I I' R R' b1) (m2 : MSame I I' R R' b) {Ia Ia' : hI} (hI : FrC fi t p I Ia) (hI' : FrC fi t p I' Ia') :
    ∃ ra Ic Ic', F_X3_costOfAll fi b1 b Ia J R = (ra, (Ic, J, R)) ∧ F_X3_costOfAll fi b1 b Ia' J' R' = (ra, (Ic', J', R')) ∧ FrC fi t p I Ic ∧ FrC fi t p I' Ic' := by
  obtain ⟨⟨kb1, kb, g1, g2⟩, ma1, va, fam⟩ := famE uq mx kx mm km oI oR rel cl hs1 hs vb1 vb
  obtain ⟨-, ma2, va', fam'⟩ := famE uq mx kx mm km oI' oR' rel' cl' hs1 hs vb1' vb'
  obtain rfl : ma2 = ma1 := Option.some.inj (va'.symm.trans (m1.2.1.trans va))
  obtain ⟨ma, vma, hmem⟩ := membE oR cl.2.2.2.1.1 cl.2.2.2.1.2.1 hs vb
  have gs : GSame fi ru w al pa co ct I I' R R' := ⟨⟨cl.2.2.2.2.1.2.2, cl'.2.2.2.2.1.2.2⟩, ⟨cl.2.2.2.2.2.2.1.2.2, cl'.2.2.2.2.2.2.1.2.2⟩, ⟨cl.2.2.2.2.2.2.2.2.1.2.2, cl'.2.2.2.2.2.2.2.2.1.2.2⟩, ⟨cl.2.2.2.2.2.2.2.2.2.2.2, cl'.2.2.2.2.2.2.2.2.2.2.2⟩, ⟨cl.2.2.2.2.2.1.2.2, cl'.2.2.2.2.2.1.2.2⟩, ⟨cl.2.2.2.2.2.2.2.1.2.2, cl'.2.2.2.2.2.2.2.1.2.2⟩, ew, ea, ep, ec, rf_0_1 oI cl.2.2.2.2.2.2.1.1 cl.2.2.2.2.2.2.1.2.1⟩
  have k0 := cl.1.2.1
  have k3 := cl.2.1.2.1
  have k6 := cl.2.2.1.2.1
  have n1 := nat_of g1.1
  have n2 := nat_of g2.1
  have e1 : I' b1 1 = I b1 1 := m1.1
  exact costPar ⟨ne_role kb1 k0 (by decide), ne_role kb1 k3 (by decide), ne_role kb1 k6 (by decide)⟩ va va' n1.symm (by rw [e1]; exact n1.symm) (by have := g1.2; omega) (fun j hj => by
    obtain ⟨f, fs, q1, q2, q3⟩ := fam j hj
    obtain ⟨f', fs', p1, p2, p3⟩ := fam' j (by rw [e1]; exact hj)
    have h6 : j < 6 := by have := g1.2; omega
    have q1' := ((m1.2.2 ma2 va j h6).1).trans q1
    obtain rfl : f' = f := Option.some.inj (p1.symm.trans q1')
    exact ⟨f', q1, p1, q3, p3, oC_congr gs m1 m2 va h6 q1 q2 (by have := g2.2; omega) vma hmem⟩) (I b1 1).toNatClampNeg 7 0 Ia Ia' 0 0 (by decide) (by omega) (by have := g1.2; omega) hI hI'
end COSTS
