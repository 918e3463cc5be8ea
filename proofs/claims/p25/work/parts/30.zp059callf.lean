/-! a fit that is found while a chain is made -/
def exMs : List Nat := [2880, 2944, 3008, 3328, 3264, 2752, 2816] ++ ((List.range 64).map (fun q => 576 + q) ++ ((List.range 64).map (fun q => 64 + q) ++ (List.range 64).map (fun q => 192 + q)))
theorem exMs_in {r k : Nat} (h : r ∈ exC) : mC r k ∈ exMs := by
  have ob : ∀ r, r < 32 → mC r k = r * 64 + min k 63 := fun r h => by unfold mC; rw [if_pos h]
  have hk : min k 63 < 64 := by omega
  simp only [exC, List.mem_cons, List.not_mem_nil, or_false] at h
  unfold exMs
  rcases h with q | q | q | q | q | q | q | q | q
  · rw [q, ob 3 (by decide)]
    exact List.mem_append_right _ (List.mem_append_right _ (List.mem_append_right _ (List.mem_map.mpr ⟨_, List.mem_range.mpr hk, rfl⟩)))
  · rw [q]; exact List.mem_append_left _ (show 2752 ∈ [2880, 2944, 3008, 3328, 3264, 2752, 2816] by decide)
  · rw [q]; exact List.mem_append_left _ (show 2816 ∈ [2880, 2944, 3008, 3328, 3264, 2752, 2816] by decide)
  · rw [q, ob 9 (by decide)]
    exact List.mem_append_right _ (List.mem_append_left _ (List.mem_map.mpr ⟨_, List.mem_range.mpr hk, rfl⟩))
  · rw [q]; exact List.mem_append_left _ (show 2880 ∈ [2880, 2944, 3008, 3328, 3264, 2752, 2816] by decide)
  · rw [q]; exact List.mem_append_left _ (show 2944 ∈ [2880, 2944, 3008, 3328, 3264, 2752, 2816] by decide)
  · rw [q]; exact List.mem_append_left _ (show 3008 ∈ [2880, 2944, 3008, 3328, 3264, 2752, 2816] by decide)
  · rw [q, ob 1 (by decide)]
    exact List.mem_append_right _ (List.mem_append_right _ (List.mem_append_left _ (List.mem_map.mpr ⟨_, List.mem_range.mpr hk, rfl⟩)))
  · rw [q]; exact List.mem_append_left _ (show 3328 ∈ [2880, 2944, 3008, 3328, 3264, 2752, 2816] by decide)
section FINDX
variable {L : List Nat} {C : Nat → Nat} {x mo : Nat} {I Ia : hI} {J : hJ} {R R' : hR}
theorem smL (hF : ∀ z r, C z = r → r ∉ exC → Ia z = I z) (hR : ∀ z j, C z ≠ 51 → R' z j = R z j) : Sm C exMs (I, J, R) (Ia, J, R') := fun a k h => by
  refine ⟨?_, rfl, ?_⟩
  · show Ia a k = I a k
    rw [hF a _ rfl (fun q => h (exMs_in q))]
  · show R' a k = R a k
    refine hR a k (fun e => h ?_)
    rw [e]
    exact List.mem_append_left _ (show 3264 ∈ [2880, 2944, 3008, 3328, 3264, 2752, 2816] by decide)
theorem msL (oR : OkR L C R) (hF : ∀ z r, C z = r → r ∉ exC → Ia z = I z) (hR : ∀ z j, C z ≠ 51 → R' z j = R z j) {b : Nat} (mb : b ∈ L) (kb : C b = 7) : MSame I Ia R R' b := by
  refine ⟨by rw [hF b 7 kb (by decide)], hR b 0 (by rw [kb]; decide), fun ma vma j hj => ?_⟩
  obtain ⟨ma', mma, vma', kma⟩ := rf_7_0 oR mb kb
  obtain rfl : ma' = ma := Option.some.inj (vma'.symm.trans vma)
  refine ⟨hR ma' j (by rw [kma]; decide), fun c vc => ?_⟩
  obtain ⟨f, mf, vf, kf⟩ := oR ma' mma j (by rw [kma]; exact hj) (by rw [kma]; exact fun e => absurd (show (6 : Nat) = 0 from e) (by decide))
  rw [kma] at kf
  have kf : C f = 5 := Nat.succ.inj kf
  obtain rfl : f = c := Option.some.inj (vf.symm.trans vc)
  rw [hF f 5 kf (by decide)]
  refine ⟨rfl, rfl, rfl, hR f 3 (by rw [kf]; decide), fun q vq => ?_⟩
  obtain ⟨fs, mfs, vfs, kfs⟩ := rf_5_3 oR mf kf
  obtain rfl : fs = q := Option.some.inj (vfs.symm.trans vq)
  exact hF fs 54 kfs (by decide)
theorem clL (hR : ∀ z j, C z ≠ 51 → R' z j = R z j) (kx : C x = 10) {fi t p sh ru w al pa co ct : Nat} (cl : ClF L C x R fi t p sh ru w al pa co ct) : ClF L C x R' fi t p sh ru w al pa co ct := by
  obtain ⟨c1, c2, c3, c4, c5, c6, c7, c8, c9, c10⟩ := cl
  have g : ∀ {q k b r : Nat}, C q ≠ 51 → At L C R q k b r → At L C R' q k b r := fun h a => ⟨a.1, a.2.1, (hR _ _ h).trans a.2.2⟩
  exact ⟨g (by rw [kx]; decide) c1, g (by rw [c1.2.1]; decide) c2, g (by rw [c1.2.1]; decide) c3, g (by rw [kx]; decide) c4, g (by rw [c1.2.1]; decide) c5, g (by rw [c5.2.1]; decide) c6, g (by rw [c1.2.1]; decide) c7, g (by rw [c7.2.1]; decide) c8, g (by rw [c1.2.1]; decide) c9, g (by rw [c9.2.1]; decide) c10⟩
theorem findX (uq : Uq L C) (mx : x ∈ L) (kx : C x = 10) (mm : mo ∈ L) (km : C mo = 11) (oI : OkI L C I) (oR : OkR L C R) (rel : RF L C x mo (I, J, R)) (oR' : OkR L C R') (hF : ∀ z r, C z = r → r ∉ exC → Ia z = I z) (hR : ∀ z j, C z ≠ 51 → R' z j = R z j) {fi t p sh ru w al pa co ct : Nat} (cl : ClF L C x R fi t p sh ru w al pa co ct) {s1 s j1 b1 b ma1 f : Nat} (hs1 : s1 < 20) (hs : s < 20) (vb1 : R sh s1 = some b1) (vb : R sh s = some b) (hj6 : j1 < 6) (hj : (j1 : Int) < (I b1 1).toInt) (va : R b1 0 = some ma1) (vf : R ma1 j1 = some f) :
    ∃ acs Ic, F_X3_find fi f b Ia J R' = (if (oC fi f b I J R).isSome = true then 1 else 0, (Ic, J, R')) ∧ Cf fi t p acs Ia Ic (oC fi f b I J R) ∧ ∀ q, oC fi f b I J R = some q → q.2.1 < 6 ∧ (q.2.1 : Int) < (I b 1).toInt ∧ acs q.2.1 ≤ 4 ∧ ∀ mab c, R b 0 = some mab → R mab q.2.1 = some c → (I c 2).toInt = acs q.2.1 := by
  have rel' : RF L C x mo (Ia, J, R') := RF.sm rel oR' (smL hF hR) (by decide +kernel)
  obtain ⟨fi', t', p', pl, bp, fp, sh', m8, y10, K, f0, f3, f6, -, -, -, f4, -, -, -, -, -, hfit⟩ := fxE (I := Ia) (I1 := I) (J1 := J) uq mx kx mm km (It := I) (fun z r h hz => (hF z r h (fun q => hz (by
    simp only [exC, exI, List.mem_cons, List.not_mem_nil, or_false] at q ⊢
    omega))).symm) oI oR' rel' oI (fun z r h hz => (hF z r h hz).symm)
  have cl' := clL hR kx cl
  obtain rfl : fi' = fi := Option.some.inj (f0.2.2.symm.trans cl'.1.2.2)
  obtain rfl : t' = t := Option.some.inj (f3.2.2.symm.trans cl'.2.1.2.2)
  obtain rfl : p' = p := Option.some.inj (f6.2.2.symm.trans cl'.2.2.1.2.2)
  obtain rfl : sh' = sh := Option.some.inj (f4.2.2.symm.trans cl'.2.2.2.1.2.2)
  obtain ⟨mb1, kb1⟩ := shapeAt oR f4.1 f4.2.1 hs1 vb1
  obtain ⟨mb, kb⟩ := shapeAt oR f4.1 f4.2.1 hs vb
  have ksh := f4.2.1
  obtain ⟨ma2, mma, vma, kma⟩ := rf_7_0 oR mb1 kb1
  obtain rfl : ma2 = ma1 := Option.some.inj (vma.symm.trans va)
  obtain ⟨f2, mf, vf2, kf⟩ := oR ma2 mma j1 (by rw [kma]; exact hj6) (by rw [kma]; exact fun e => absurd (show (6 : Nat) = 0 from e) (by decide))
  rw [kma] at kf
  have kf : C f2 = 5 := Nat.succ.inj kf
  obtain rfl : f2 = f := Option.some.inj (vf2.symm.trans vf)
  obtain ⟨fs, mfs, vfs, kfs⟩ := rf_5_3 oR mf kf
  obtain ⟨ma, vmab, hmem⟩ := membE oR f4.1 ksh hs vb
  have gb := rf_7_1 oI mb kb
  have n1 := nat_of gb.1
  have e1 : Ia b1 = I b1 := hF b1 7 kb1 (by decide)
  have e2 : Ia b = I b := hF b 7 kb (by decide)
  obtain ⟨o, acs, acm, eo, hq, cl2, -⟩ := hfit K (fun _ _ _ _ => rfl) s1 j1 s b1 b ma2 f2 hs1 hs ((hR sh' s1 (by rw [ksh]; decide)).trans vb1) ((hR sh' s (by rw [ksh]; decide)).trans vb) hj6 (by rw [e1]; exact hj) ((hR b1 0 (by rw [kb1]; decide)).trans va) ((hR ma2 j1 (by rw [kma]; decide)).trans vf)
  have gs : GSame fi' ru w al pa co ct I Ia R R' := ⟨⟨cl.2.2.2.2.1.2.2, cl'.2.2.2.2.1.2.2⟩, ⟨cl.2.2.2.2.2.2.1.2.2, cl'.2.2.2.2.2.2.1.2.2⟩, ⟨cl.2.2.2.2.2.2.2.2.1.2.2, cl'.2.2.2.2.2.2.2.2.1.2.2⟩, ⟨cl.2.2.2.2.2.2.2.2.2.2.2, cl'.2.2.2.2.2.2.2.2.2.2.2⟩, ⟨cl.2.2.2.2.2.1.2.2, cl'.2.2.2.2.2.1.2.2⟩, ⟨cl.2.2.2.2.2.2.2.1.2.2, cl'.2.2.2.2.2.2.2.1.2.2⟩, hF w 38 cl.2.2.2.2.2.1.2.1 (by decide), by rw [hF al 0 cl.2.2.2.2.2.2.1.2.1 (by decide)], hF pa 40 cl.2.2.2.2.2.2.2.1.2.1 (by decide), hF ct 41 cl.2.2.2.2.2.2.2.2.2.2.1 (by decide), rf_0_1 oI cl.2.2.2.2.2.2.1.1 cl.2.2.2.2.2.2.1.2.1⟩
  have eoC : oC fi' f2 b Ia J R' = oC fi' f2 b I J R := oC_congr gs (msL oR hF hR mb1 kb1) (msL oR hF hR mb kb) va hj6 vf vfs (by have := gb.2; omega) vmab hmem
  rw [eoC] at eo
  subst eo
  obtain ⟨Ic, q1, q2⟩ := cl2 Ia (fun _ _ _ _ => rfl) (fun _ _ _ => rfl)
  refine ⟨acs, Ic, q1, q2, fun q h => ?_⟩
  obtain ⟨-, u2', u3, u4, u5, u6, -⟩ := hq q h
  rw [e2] at u2'
  refine ⟨u3, u2', u5, fun mab c h1 h2 => ?_⟩
  obtain ⟨c', mc, vc', kc'⟩ : ∃ c', c' ∈ L ∧ R mab q.2.1 = some c' ∧ C c' = 5 := by
    obtain ⟨mab', mmab, vmab', kmab⟩ := rf_7_0 oR mb kb
    obtain rfl : mab' = mab := Option.some.inj (vmab'.symm.trans h1)
    obtain ⟨c', g1, g2, g3⟩ := oR mab' mmab q.2.1 (by rw [kmab]; exact u3) (by rw [kmab]; exact fun e => absurd (show (6 : Nat) = 0 from e) (by decide))
    rw [kmab] at g3
    exact ⟨c', g1, g2, Nat.succ.inj g3⟩
  obtain rfl : c' = c := Option.some.inj (vc'.symm.trans h2)
  have h56 : C mab = 56 := by
    obtain ⟨mab', mmab, vmab', kmab⟩ := rf_7_0 oR mb kb
    obtain rfl : mab' = mab := Option.some.inj (vmab'.symm.trans h1)
    exact kmab
  have := u6 mab c' ((hR b 0 (by rw [kb]; decide)).trans h1) ((hR mab _ (by rw [h56]; decide)).trans h2)
  rw [hF c' 5 kc' (by decide)] at this
  exact this
end FINDX
section OCSM
variable {L : List Nat} {C : Nat → Nat} {x mo : Nat} {I I1 : hI} {J J1 : hJ} {R R1 : hR}
theorem oC_sm {ms : List Nat} (oI : OkI L C I) (oR : OkR L C R) (kx : C x = 10) {fi t p sh ru w al pa co ct : Nat} (cl : ClF L C x R fi t p sh ru w al pa co ct) (s : Sm C ms (I, J, R) (I1, J1, R1)) (hm : codesL.all (fun z => !ms.contains z) = true) : ∀ s1 s j1 b1 b ma1 f, s1 < 20 → s < 20 → R sh s1 = some b1 → R sh s = some b → j1 < 6 → R b1 0 = some ma1 → R ma1 j1 = some f → oC fi f b I1 J1 R1 = oC fi f b I J R := fun s1 s' j1 b1 b ma1 f h1 h2 h3 h4 h5 h6 h7 => by
  have hn : ∀ z ∈ codesL, ms.contains z = false := fun z hz => by have := List.all_eq_true.mp hm z hz; simpa using this
  have cl' : ClF L C x R1 fi t p sh ru w al pa co ct := cl.sm (u := (I, J, R)) (v := (I1, J1, R1)) kx s hn
  have c4 := cl.2.2.2.1
  obtain ⟨mb1, kb1⟩ := shapeAt oR c4.1 c4.2.1 h1 h3
  obtain ⟨mb, kb⟩ := shapeAt oR c4.1 c4.2.1 h2 h4
  obtain ⟨ma2, mma, vma, kma⟩ := rf_7_0 oR mb1 kb1
  obtain rfl : ma2 = ma1 := Option.some.inj (vma.symm.trans h6)
  obtain ⟨f2, mf, vf2, kf⟩ := oR ma2 mma j1 (by rw [kma]; exact h5) (by rw [kma]; exact fun e => absurd (show (6 : Nat) = 0 from e) (by decide))
  rw [kma] at kf
  have kf : C f2 = 5 := Nat.succ.inj kf
  obtain rfl : f2 = f := Option.some.inj (vf2.symm.trans h7)
  obtain ⟨fs, mfs, vfs, kfs⟩ := rf_5_3 oR mf kf
  obtain ⟨ma, vmab, hmem⟩ := membE oR c4.1 c4.2.1 h2 h4
  have gb := rf_7_1 oI mb kb
  have n1 := nat_of gb.1
  have gs : GSame fi ru w al pa co ct I I1 R R1 := ⟨⟨cl.2.2.2.2.1.2.2, cl'.2.2.2.2.1.2.2⟩, ⟨cl.2.2.2.2.2.2.1.2.2, cl'.2.2.2.2.2.2.1.2.2⟩, ⟨cl.2.2.2.2.2.2.2.2.1.2.2, cl'.2.2.2.2.2.2.2.2.1.2.2⟩, ⟨cl.2.2.2.2.2.2.2.2.2.2.2, cl'.2.2.2.2.2.2.2.2.2.2.2⟩, ⟨cl.2.2.2.2.2.1.2.2, cl'.2.2.2.2.2.1.2.2⟩, ⟨cl.2.2.2.2.2.2.2.1.2.2, cl'.2.2.2.2.2.2.2.1.2.2⟩, smA s cl.2.2.2.2.2.1.2.1 (by decide) (hn 2432 (by decide)), smO (k := 1) s cl.2.2.2.2.2.2.1.2.1 (hn 1 (by decide)), smA s cl.2.2.2.2.2.2.2.1.2.1 (by decide) (hn 2560 (by decide)), smA s cl.2.2.2.2.2.2.2.2.2.2.1 (by decide) (hn 2624 (by decide)), rf_0_1 oI cl.2.2.2.2.2.2.1.1 cl.2.2.2.2.2.2.1.2.1⟩
  exact oC_congr gs (MSame.sm (u := (I, J, R)) (v := (I1, J1, R1)) oR mb1 kb1 s hn) (MSame.sm (u := (I, J, R)) (v := (I1, J1, R1)) oR mb kb s hn) h6 h5 h7 vfs (by have := gb.2; omega) vmab hmem
end OCSM
