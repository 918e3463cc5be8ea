def codesU : List Nat := [646, 647, 648, 512, 513, 514, 68, 726, 727, 728, 725, 3072, 3200, 5248, 5376]
theorem RT.call {L : List Nat} {C : Nat → Nat} {x mo : Nat} {ms : List Nat} {I I2 : hI} {J J2 : hJ} {R R2 : hR} {th tcl tfl la kc kh mc mf mh : Nat} (kx : C x = 10) (km : C mo = 11) (c : CelT L C x mo R th tcl tfl la kc kh mc mf mh) (e : EqT I J mo th tcl tfl la kh mc mf mh) (s : Sm C ms (I, J, R) (I2, J2, R2)) (hm : codesU.all (fun z => !ms.contains z) = true) (h1 : J2 tfl = J2 mf) (h2 : J2 la 0 = J2 mo 25) (h3 : I2 la 3 = I2 mo 29) (h4 : I2 la 4 = I2 mo 30) (h5 : ∃ a b, At L C R2 kc 8 a 53 ∧ At L C R2 kc 9 b 53 ∧ a ≠ b) : RT L C x mo (I2, J2, R2) := by
  obtain ⟨c1, c2, c3, c4, c5, c6, c7, c8, c9⟩ := c
  obtain ⟨e1, e2, e3, e4, e5, e6, e7⟩ := e
  have hn : ∀ z ∈ codesU, ms.contains z = false := fun z hz => by have := List.all_eq_true.mp hm z hz; simpa using this
  refine ⟨kx, km, th, tcl, tfl, la, kc, kh, mc, mf, mh, ⟨c1.sm s kx (hn 646 (by decide)), c2.sm s c1.2.1 (hn 512 (by decide)), c3.sm s c1.2.1 (hn 513 (by decide)), c4.sm s kx (hn 647 (by decide)), c5.sm s kx (hn 648 (by decide)), c6.sm s c5.2.1 (hn 68 (by decide)), c7.sm s km (hn 726 (by decide)), c8.sm s km (hn 727 (by decide)), c9.sm s km (hn 728 (by decide))⟩, ⟨?_, ?_, h1, ?_, h2, h3, h4⟩, h5⟩
  · exact (smO (k := 2) s c1.2.1 (hn 514 (by decide))).trans (e1.trans (smO (k := 21) s km (hn 725 (by decide))).symm)
  · exact (smA s c2.2.1 (by decide) (hn 3072 (by decide))).trans (e2.trans (smA s c7.2.1 (by decide) (hn 5248 (by decide))).symm)
  · exact (smJ s c6.2.1 (by decide) (hn 3200 (by decide))).trans (e4.trans (smJ s c9.2.1 (by decide) (hn 5376 (by decide))).symm)
/-! the start of a chain, its end, and the count of it -/
section LK0
variable {L : List Nat} {C : Nat → Nat} {x mo : Nat} {I : hI} {J : hJ} {R : hR} {fi t p sh ru w al pa co ct : Nat}
theorem lk0C (oR : OkR L C R) (cl : ClF L C x R fi t p sh ru w al pa co ct) {kc ch kp : Nat} (kkc : C kc = 1) (v5 : At L C R kc 5 ch 51) {tg : Nat → Nat} {s0 j0 : Nat} (hs : s0 < 20) (hj : j0 < 6) (hj2 : (j0 : Int) < (I (shpC sh R s0) 1).toInt) {Ib : hI} (hF : ∀ z r, C z = r → r ∉ exC → Ib z = I z) : LkC L C fi sh kc ch kp I J R tg s0 j0 0 (u2 Ib kc 7 0) (u2 R ch 0 (some (memC sh R s0 j0))) := by
  have c4 := cl.2.2.2.1
  obtain ⟨b, ma, f, fs, fac, g1, g2, g3, g4, g5, g6, g7, g8, g9, g10, -⟩ := memF oR c4.1 c4.2.1 hs hj
  refine ⟨fun z r hz hr => ?_, fun z j hz => by rw [u2_ne (fun e => hz (by rw [e]; exact v5.2.1))], OkR.st oR v5.2.1 (by rw [g8]; exact g9) (by rw [g8, g10]; rfl), by rw [u2_at]; decide, fun i hi => ?_, fun i hi => by omega⟩
  · rw [u2_ne (fun e => hr (by rw [← hz, e, kkc]; decide))]
    exact hF z r hz hr
  · obtain rfl : i = 0 := by omega
    exact ⟨rfl, hs, hj, hj2, u2_at⟩
theorem lk0M (km : C mo = 11) {pl bp fp cl' cp : Nat} (k97 : C cl' = 97) {tg : Nat → Nat} {s0 j0 : Nat} {K Kf : hI} (hF : ∀ z r, C z = r → r ∉ exW → z ≠ pl → z ≠ bp → z ≠ fp → Kf z = K z) {y : Int32} (hy : y.toInt = ((6 * s0 + j0 : Nat) : Int)) : LkM C mo pl bp fp cl' cp fi sh I K J R tg s0 j0 0 (u2 (u2 Kf cl' 0 y) mo 49 1) := by
  refine ⟨fun z r hz hr z1 z2 z3 => ?_, by rw [u2_at]; decide, fun i hi => ?_, fun i hi => by omega⟩
  · rw [u2_ne (fun e => hr (by rw [← hz, e, km]; decide)), u2_ne (fun e => hr (by rw [← hz, e, k97]; decide))]
    exact hF z r hz hr z1 z2 z3
  · obtain rfl : i = 0 := by omega
    rw [u2_ne (ne_role k97 km (by decide)), u2_at]
    exact hy
end LK0
theorem counted0 {mo : Nat} {I : hI} {J : hJ} {R : hR} : F_X11_counted mo 0 I J R = (0, (u2 (u2 I mo 29 (I mo 29 + 1)) mo 30 (u2 I mo 29 (I mo 29 + 1) mo 30 + 0), J, R)) := by
  simp only [F_X11_counted, F_X11_counted_14, F_X11_counted_34, nm] <;> rfl
theorem counted7 {mo : Nat} {I : hI} {J : hJ} {R : hR} : F_X11_counted mo (-7) I J R = (-7, (u2 (u2 I mo 29 (I mo 29 + 0)) mo 30 (u2 I mo 29 (I mo 29 + 0) mo 30 + 1), J, R)) := by
  simp only [F_X11_counted, F_X11_counted_14, F_X11_counted_34, nm] <;> rfl
theorem countedE {mo : Nat} {I : hI} {J : hJ} {R : hR} {q : Prop} [Decidable q] : ∃ I1, F_X11_counted mo (if q then 0 else -7) I J R = (if q then 0 else -7, (I1, J, R)) ∧ I1 mo 29 = (if q then I mo 29 + 1 else I mo 29) ∧ I1 mo 30 = (if q then I mo 30 else I mo 30 + 1) := by
  by_cases h : q
  · simp only [if_pos h]
    refine ⟨_, counted0, ?_, ?_⟩
    · rw [u2_nk (by decide), u2_at]
    · rw [u2_at, u2_nk (by decide), Int32.add_zero]
  · simp only [if_neg h]
    refine ⟨_, counted7, ?_, ?_⟩
    · rw [u2_nk (by decide), u2_at, Int32.add_zero]
    · rw [u2_at, u2_nk (by decide)]
/-- the end of a call, in the model -/
noncomputable def finF (mo : Nat) (x1 y : Int32) (I : hI) (J : hJ) (R : hR) : Int32 × hU := nmU (F_X11_link mo y I J R) fun y33 I33 _ _ => (if y33 = (1 : Int32) then nmU (F_X11_callChain mo x1 I33 J R) fun y36 I36 J36 _ => nmU (F_X11_counted mo y36 I36 J36 R) fun y37 I37 _ _ => (y37, (I37, J36, R)) else ((-6 : Int32), (I33, J, R)))
theorem finE {x b1 b2 b3 b4 b6 b11 b12 b13 : Nat} {x1 y : Int32} {I Ib I1 : hI} {J J1 : hJ} {R Rb R1 : hR} (w1 : R x 8 = some b1) (w2 : R x 4 = some b2) (w3 : R x 6 = some b3) (w4 : R b3 0 = some b4) (w6 : (R b2 (I b4 x1.toNatClampNeg).toNatClampNeg).getD 0 = b6) (h1 : F_X1_link b1 b6 I J R = (1, (Ib, J, Rb))) (v1 : Rb x 8 = some b11) (v2 : Rb x 6 = some b12) (v3 : Rb b12 1 = some b13) (h2 : F_X1_perform b11 b13 (x1 * 3) Ib J Rb = (y, (I1, J1, R1))) : F_X10_finish x x1 I J R = (if y = 0 then (-7) else 0, (I1, J1, R1)) := by
  have e : F_X10_finish x x1 I J R = nmU (F_X1_link ((R x 8).getD 0) ((R ((R x 4).getD 0) (I ((R ((R x 6).getD 0) 0).getD 0) x1.toNatClampNeg).toNatClampNeg).getD 0) I J R) (fun y7 I7 _ R7 => if y7 = 0 then ((-6 : Int32), (I7, J, R7)) else nmU (F_X1_perform ((R7 x 8).getD 0) ((R7 ((R7 x 6).getD 0) 1).getD 0) (x1 * 3) I7 J R7) (fun y15 I15 J15 R15 => if y15 = 0 then ((-7 : Int32), (I15, J15, R15)) else ((0 : Int32), (I15, J15, R15)))) := rfl
  rw [e, w1, w2, w3, Option.getD_some, Option.getD_some, Option.getD_some, w4, Option.getD_some, w6, h1]
  show (if (1 : Int32) = 0 then ((-6 : Int32), (Ib, J, Rb)) else nmU (F_X1_perform ((Rb x 8).getD 0) ((Rb ((Rb x 6).getD 0) 1).getD 0) (x1 * 3) Ib J Rb) (fun y15 I15 J15 R15 => if y15 = 0 then ((-7 : Int32), (I15, J15, R15)) else ((0 : Int32), (I15, J15, R15)))) = _
  rw [if_neg (show ¬ (1 : Int32) = 0 by decide), v1, v2, Option.getD_some, Option.getD_some, v3, Option.getD_some, h2]
  show (if y = 0 then ((-7 : Int32), (I1, J1, R1)) else ((0 : Int32), (I1, J1, R1))) = _
  by_cases h : y = 0
  · rw [if_pos h, if_pos h]
  · rw [if_neg h, if_neg h]
section FINC
variable {L : List Nat} {C : Nat → Nat} {x mo : Nat} {I : hI} {J : hJ} {R : hR} {fi t p sh ru w al pa co ct : Nat}
set_option maxHeartbeats 2000000 in
/-- the end of a call, in the class -/
theorem finC (uq : Uq L C) (mx : x ∈ L) (kx : C x = 10) (mm : mo ∈ L) (km : C mo = 11) (oI : OkI L C I) (oR : OkR L C R) (rel : RF L C x mo (I, J, R)) {rf rt rc rb rm rth f9 : Nat} (c0 : At L C R x 0 ru 6) (c1 : At L C R ru 0 rf 32) (c2 : At L C R ru 1 rt 33) (c3 : At L C R ru 2 rc 34) (c4 : At L C R ru 3 rb 35) (c5 : At L C R ru 4 rm 36) (c6 : At L C R ru 5 rth 37) (c8 : At L C R ru 9 f9 39) (hT : Tb I ru rf rt rc rth w f9) (h7 : I rt 7 = 4) (h9 : I rt 9 = 3) (cl : ClF L C x R fi t p sh ru w al pa co ct) {th tcl tfl la kc kh mc mf mh a8 a9 cvl : Nat} (vx2 : At L C R x 2 co 2) (vcv : At L C R co 1 cvl 42) (ce : CelT L C x mo R th tcl tfl la kc kh mc mf mh) (h8 : At L C R kc 8 a8 53) (h9' : At L C R kc 9 a9 53) (n89 : a8 ≠ a9) {ch kp : Nat} (v2 : R kc 2 = some fi) (v5 : At L C R kc 5 ch 51) (v6 : At L C R kc 6 kp 52) {tg : Nat → Nat} {s0 j0 n : Nat} (hn : n ≤ 9) {Ia : hI} {R' : hR} (h : LkC L C fi sh kc ch kp I J R tg s0 j0 n Ia R') {x1 : Int32} (hx1 : 0 ≤ x1.toInt ∧ x1.toInt < (I th 2).toInt) (htg : tg n = (I tcl x1.toNatClampNeg).toNatClampNeg) :
    (runL fi sh I J R tg s0 j0 (n + 1) = none ∧ ∃ Ic, F_X10_finish x x1 Ia J R' = (-6, (Ic, J, R')) ∧ (∀ z r, C z = r → r ∉ exC → Ic z = I z) ∧ ∀ z, Wz C z → Ic z = Ia z) ∨
    (∃ Ib Rb fac at_ I1 J1 R1 o, (LkC L C fi sh kc ch kp I J R tg s0 j0 (n + 1) Ib Rb ∧ ∀ z, Wz C z → Ib z = Ia z) ∧ (R (cmL fi sh I J R tg s0 j0 (n + 1)) 7 = some fac ∧ C fac = 55) ∧ (x1 * 3 + I (cmL fi sh I J R tg s0 j0 (n + 1)) 5).toNatClampNeg = at_ ∧ o = outA (arL fi sh I J R tg s0 j0) (fun k i => Ib (csL fi sh I J R tg s0 j0 k) i) (fun k => Ib (cmL fi sh I J R tg s0 j0 k) 1) (plL fi sh I J R tg s0 j0) (cvA rt rb rm f9 I) (fun s => J cvl s.toNatClampNeg) (J kh) (n + 1) (wkC Ib (cmL fi sh I J R tg s0 j0 (n + 1)) fac (arL fi sh I J R tg s0 j0 (n + 1)) (J tfl at_)) ∧ F_X10_finish x x1 Ia J R' = (if o.1.isSome = true then 0 else -7, (I1, J1, R1)) ∧ (∀ z j, ¬ (z = ru ∧ j = 11) → ¬ (z = la ∧ (j = 1 ∨ j = 2 ∨ j = 3 ∨ j = 4)) → I1 z j = Ib z j) ∧ (I1 la 3 = (if o.1.isSome = true then Ib la 3 + 1 else Ib la 3) ∧ I1 la 4 = (if o.1.isSome = true then Ib la 4 else Ib la 4 + 1)) ∧ (∀ z j, ¬ (z = ru ∧ j = 10) → ¬ (z = kc ∧ j = 10) → z ≠ a8 → z ≠ a9 → ¬ (z = tfl ∧ j = at_) → ¬ (z = la ∧ j = 0) → J1 z j = J z j) ∧ J1 tfl at_ = o.2.getD (J tfl at_) ∧ J1 la 0 = o.1.getD (J la 0) ∧ (∀ z j, ¬ (z = kc ∧ (j = 8 ∨ j = 9)) → R1 z j = Rb z j) ∧ ∃ p q, R1 kc 8 = some p ∧ R1 kc 9 = some q ∧ ((p = a8 ∧ q = a9) ∨ (p = a9 ∧ q = a8))) := by
  obtain ⟨t1, t2, t3, t4, t5, t6, -⟩ := id ce
  have kk := t5.2.1
  obtain ⟨hF, hR, oR', hk7, hpos, hpl⟩ := id h
  have c4' := cl.2.2.2.1
  have e8 : R' x 8 = some kc := (hR x 8 (by rw [kx]; decide)).trans t5.2.2
  have e4 : R' x 4 = some sh := (hR x 4 (by rw [kx]; decide)).trans c4'.2.2
  have e6 : R' x 6 = some th := (hR x 6 (by rw [kx]; decide)).trans t1.2.2
  have e0 : R' th 0 = some tcl := (hR th 0 (by rw [t1.2.1]; decide)).trans t2.2.2
  have et : Ia tcl = I tcl := hF tcl 48 t2.2.1 (by decide)
  have n1 := nat_of hx1.1
  have g8 := rf_8_2 oI t1.1 t1.2.1
  have gc := oI tcl t2.1 x1.toNatClampNeg (by rw [t2.2.1]; show _ < 20; have := g8.2; omega)
  rw [t2.2.1] at gc
  have gc : 0 ≤ (I tcl x1.toNatClampNeg).toInt ∧ (I tcl x1.toNatClampNeg).toInt ≤ 9 := ⟨gc.1, gc.2.1⟩
  have n2 := nat_of gc.1
  have htg20 : tg n < 20 := by omega
  have es : (R' sh (I tcl x1.toNatClampNeg).toNatClampNeg).getD 0 = shpC sh R (tg n) := by rw [hR sh _ (by rw [c4'.2.1]; decide), htg]; rfl
  rcases LkC.step uq mx kx mm km oI oR rel cl kk v2 v5 v6 (by omega) htg20 h with ⟨z1, Ic, z2, z3, z4⟩ | ⟨Ib, Rb, z2, z3, z4⟩
  · refine Or.inl ⟨z1, Ic, ?_, z3, z4⟩
    simp only [F_X10_finish, nm, nmU, e8, e4, e6, e0, Option.getD_some, et, es]
    rw [z2]
    dsimp only
    rw [if_pos (show (0 : Int32) = 0 from rfl)]
  · obtain ⟨hFb, hRb, oRb, -, hposb, -⟩ := id z3
    have f8 : Rb x 8 = some kc := (hRb x 8 (by rw [kx]; decide)).trans t5.2.2
    have f6 : Rb x 6 = some th := (hRb x 6 (by rw [kx]; decide)).trans t1.2.2
    have f1 : Rb th 1 = some tfl := (hRb th 1 (by rw [t1.2.1]; decide)).trans t3.2.2
    obtain ⟨-, p2, p3, -⟩ := hposb (n + 1) (Nat.le_refl _)
    obtain ⟨b, ma, f, fs, fac, q1, q2, q3, q4, q5, q6, q7, q8, q9, q10, q11, q12, q13, q14, q15, q16⟩ := memF oR c4'.1 c4'.2.1 p2 p3
    have ec : cmL fi sh I J R tg s0 j0 (n + 1) = f := q8
    have vfac : R (cmL fi sh I J R tg s0 j0 (n + 1)) 7 = some fac := by rw [ec]; exact q14
    obtain ⟨I1, J1, R1, o, o1, o2, o3, o4, o5, o6, o7, o8, o9⟩ := performX uq mx kx oI oR c0 c1 c2 c3 c4 c5 c6 c8 hT h7 h9 cl vx2 vcv ce h8 h9' n89 v5 v6 (show n + 1 ≤ 10 by omega) z3 (xb := x1 * 3) vfac q15 q16 rfl
    refine Or.inr ⟨Ib, Rb, fac, _, I1, J1, R1, o, ⟨z3, z4⟩, ⟨vfac, q16⟩, rfl, o1, ?_, o3, o4, o5, o6, o7, o8, o9⟩
    rw [finE e8 e4 e6 e0 (by rw [et]; exact es) z2 f8 f6 f1 o2]
    by_cases ho : o.1.isSome = true
    · rw [if_pos ho, if_pos ho, if_neg (show ¬ (1 : Int32) = 0 by decide)]
    · rw [if_neg ho, if_neg ho, if_pos (show (0 : Int32) = 0 from rfl)]
end FINC
/-- nothing was done -/
theorem RT.none {L : List Nat} {C : Nat → Nat} {x mo : Nat} {ms : List Nat} {I I2 : hI} {J J2 : hJ} {R R2 : hR} {th tcl tfl la kc kh mc mf mh : Nat} (kx : C x = 10) (km : C mo = 11) (c : CelT L C x mo R th tcl tfl la kc kh mc mf mh) (e : EqT I J mo th tcl tfl la kh mc mf mh) (s : Sm C ms (I, J, R) (I2, J2, R2)) (hm : codesU.all (fun z => !ms.contains z) = true) (hJ : J2 = J) (h3 : I2 la 3 = I la 3) (h3' : I2 mo 29 = I mo 29) (h4 : I2 la 4 = I la 4) (h4' : I2 mo 30 = I mo 30) (hk : ∀ j, R2 kc j = R kc j) (h5 : ∃ a b, At L C R kc 8 a 53 ∧ At L C R kc 9 b 53 ∧ a ≠ b) : RT L C x mo (I2, J2, R2) := by
  obtain ⟨a, b, ha, hb, hab⟩ := h5
  subst hJ
  exact RT.call kx km c e s hm e.2.2.1 e.2.2.2.2.1 (by rw [h3, h3']; exact e.2.2.2.2.2.1) (by rw [h4, h4']; exact e.2.2.2.2.2.2) ⟨a, b, ⟨ha.1, ha.2.1, (hk 8).trans ha.2.2⟩, ⟨hb.1, hb.2.1, (hk 9).trans hb.2.2⟩, hab⟩
