/-! a made chain does the same on both sides -/
section CHD
variable {L : List Nat} {C : Nat → Nat} {x mo : Nat} {I : hI} {J : hJ} {R : hR} {fi t p sh ru w al pa co ct : Nat}
noncomputable def cmL (fi sh : Nat) (I : hI) (J : hJ) (R : hR) (tg : Nat → Nat) (s0 j0 k : Nat) : Nat := memC sh R (posL fi sh I J R tg s0 j0 k).1 (posL fi sh I J R tg s0 j0 k).2
noncomputable def csL (fi sh : Nat) (I : hI) (J : hJ) (R : hR) (tg : Nat → Nat) (s0 j0 k : Nat) : Nat := (R (cmL fi sh I J R tg s0 j0 k) 3).getD 0
noncomputable def arL (fi sh : Nat) (I : hI) (J : hJ) (R : hR) (tg : Nat → Nat) (s0 j0 k : Nat) : Nat := (I (cmL fi sh I J R tg s0 j0 k) 2).toNatClampNeg
noncomputable def plL (fi sh : Nat) (I : hI) (J : hJ) (R : hR) (tg : Nat → Nat) (s0 j0 k i : Nat) : Nat := (plsL fi sh I J R tg s0 j0 k).getD i 0
/-- what is known of a chain of n links, by the base alone -/
def ChD (L : List Nat) (C : Nat → Nat) (fi sh w : Nat) (I : hI) (J : hJ) (R : hR) (tg : Nat → Nat) (s0 j0 n : Nat) : Prop :=
  (∀ k, k ≤ n → ((posL fi sh I J R tg s0 j0 k).1 < 20 ∧ (posL fi sh I J R tg s0 j0 k).2 < 6 ∧ ((posL fi sh I J R tg s0 j0 k).2 : Int) < (I (shpC sh R (posL fi sh I J R tg s0 j0 k).1) 1).toInt) ∧ cmL fi sh I J R tg s0 j0 k ∈ L ∧ C (cmL fi sh I J R tg s0 j0 k) = 5 ∧ R (cmL fi sh I J R tg s0 j0 k) 3 = some (csL fi sh I J R tg s0 j0 k) ∧ csL fi sh I J R tg s0 j0 k ∈ L ∧ C (csL fi sh I J R tg s0 j0 k) = 54 ∧ (I (cmL fi sh I J R tg s0 j0 k) 2).toInt = arL fi sh I J R tg s0 j0 k ∧ arL fi sh I J R tg s0 j0 k ≤ 4) ∧
  (∀ k, k < n → (∀ i, i < arL fi sh I J R tg s0 j0 (k + 1) → plL fi sh I J R tg s0 j0 k i = 4 ∨ (plL fi sh I J R tg s0 j0 k i < arL fi sh I J R tg s0 j0 k ∧ VpC w I (I (csL fi sh I J R tg s0 j0 k) (plL fi sh I J R tg s0 j0 k i)) (I (csL fi sh I J R tg s0 j0 (k + 1)) i))) ∧ VpC w I (I (cmL fi sh I J R tg s0 j0 (k + 1)) 1) (I (cmL fi sh I J R tg s0 j0 k) 1))
theorem LkC.chd (oI : OkI L C I) (oR : OkR L C R) (cl : ClF L C x R fi t p sh ru w al pa co ct) (h0 : ∀ q, q < 49 → 0 ≤ (I w q).toInt) {kc ch kp : Nat} {tg : Nat → Nat} {s0 j0 n : Nat} {Ia : hI} {R' : hR} (h : LkC L C fi sh kc ch kp I J R tg s0 j0 n Ia R') : ChD L C fi sh w I J R tg s0 j0 n := by
  have c4 := cl.2.2.2.1
  have rg : ∀ c, c ∈ L → C c = 54 → ∀ i, i < 4 → 0 ≤ (I c i).toInt ∧ (I c i).toInt ≤ 6 := fun c h1 h2 i hi => by
    have g := oI c h1 i (by rw [h2]; exact hi)
    rw [h2] at g
    exact ⟨g.1, g.2.1⟩
  have fst : ∀ k, k ≤ n → ((posL fi sh I J R tg s0 j0 k).1 < 20 ∧ (posL fi sh I J R tg s0 j0 k).2 < 6 ∧ ((posL fi sh I J R tg s0 j0 k).2 : Int) < (I (shpC sh R (posL fi sh I J R tg s0 j0 k).1) 1).toInt) ∧ cmL fi sh I J R tg s0 j0 k ∈ L ∧ C (cmL fi sh I J R tg s0 j0 k) = 5 ∧ R (cmL fi sh I J R tg s0 j0 k) 3 = some (csL fi sh I J R tg s0 j0 k) ∧ csL fi sh I J R tg s0 j0 k ∈ L ∧ C (csL fi sh I J R tg s0 j0 k) = 54 ∧ (I (cmL fi sh I J R tg s0 j0 k) 2).toInt = arL fi sh I J R tg s0 j0 k ∧ arL fi sh I J R tg s0 j0 k ≤ 4 := fun k hk => by
    obtain ⟨-, r2, r3, r4, -⟩ := h.2.2.2.2.1 k hk
    obtain ⟨b, ma, f, fs, fac, g1, g2, g3, g4, g5, g6, g7, g8, g9, g10, g11, g12, g13, -⟩ := memF oR c4.1 c4.2.1 r2 r3
    have e1 : cmL fi sh I J R tg s0 j0 k = f := g8
    have e2 : csL fi sh I J R tg s0 j0 k = fs := by unfold csL; rw [e1, g11]; rfl
    have ga := rf_5_2 oI g9 g10
    have na := nat_of ga.1
    unfold arL
    rw [e2, e1]
    exact ⟨⟨r2, r3, r4⟩, g9, g10, g11, g12, g13, na.symm, by have := ga.2; omega⟩
  refine ⟨fst, fun k hk => ?_⟩
  obtain ⟨y1, y2, -⟩ := h.2.2.2.2.2 k hk
  obtain ⟨r1, r2, r3, r4, -⟩ := h.2.2.2.2.1 k (by omega)
  obtain ⟨r1', -⟩ := h.2.2.2.2.1 (k + 1) (by omega)
  obtain ⟨⟨p1, p2, p3⟩, p4, p5, p6, p7, p8, p9, p10⟩ := fst k (by omega)
  obtain ⟨⟨q1, q2, q3⟩, q4, q5, q6, q7, q8, q9, q10⟩ := fst (k + 1) (by omega)
  cases ho : oC fi (cmL fi sh I J R tg s0 j0 k) (shpC sh R (tg k)) I J R with
  | none => exact absurd ho y1
  | some q =>
    have est : stp fi sh I J R (posL fi sh I J R tg s0 j0 k).1 (posL fi sh I J R tg s0 j0 k).2 (tg k) = some (q.2.1, q.2.2) := by
      unfold stp
      show (match oC fi (cmL fi sh I J R tg s0 j0 k) (shpC sh R (tg k)) I J R with
        | none => none
        | some q => some (q.2.1, q.2.2)) = _
      rw [ho]
    have hrun1 : runL fi sh I J R tg s0 j0 (k + 1) = some (tg k, q.2.1) := by
      simp only [runL, r1]
      rw [est]
    have hpos1 : posL fi sh I J R tg s0 j0 (k + 1) = (tg k, q.2.1) := by unfold posL; rw [hrun1]; rfl
    have hpls : plsL fi sh I J R tg s0 j0 k = q.2.2 := by unfold plsL; rw [est]
    have htg : tg k < 20 := by have := q1; rw [hpos1] at this; exact this
    have hq6 : q.2.1 < 6 := by have := q2; rw [hpos1] at this; exact this
    obtain ⟨b, ma, c, cs, cf, n1, n2, n3, n4, n5, n6, n7, n8, n9, n10, n11, n12, n13, -⟩ := memF oR c4.1 c4.2.1 htg hq6
    have ec : cmL fi sh I J R tg s0 j0 (k + 1) = c := by unfold cmL; rw [hpos1]; exact n8
    have ecs : csL fi sh I J R tg s0 j0 (k + 1) = cs := by unfold csL; rw [ec, n11]; rfl
    rw [n2] at ho
    have vd := oC_vd (al := 0) (co := 0) (ct := 0) cl.2.2.2.2.1.2.2 cl.2.2.2.2.2.1.2.2 h0 (rf_5_1 oI p4 p5) p6 (rg _ p7 p8) (by have := p10; unfold arL at this; exact this) n5 n7 n11 (rf_5_1 oI n9 n10) (rg _ n12 n13) (by have := q10; unfold arL at this; rw [ec] at this; exact this) ho
    unfold plL
    rw [hpls, ecs, ec]
    refine ⟨fun i hi => ?_, vd.2⟩
    have hi' : i < (I c 2).toNatClampNeg := by unfold arL at hi; rw [ec] at hi; exact hi
    exact vd.1 i hi'
/-- the class's side of it -/
theorem performX (uq : Uq L C) (mx : x ∈ L) (kx : C x = 10) (oI : OkI L C I) (oR : OkR L C R) {rf rt rc rb rm rth f9 : Nat} (c0 : At L C R x 0 ru 6) (c1 : At L C R ru 0 rf 32) (c2 : At L C R ru 1 rt 33) (c3 : At L C R ru 2 rc 34) (c4 : At L C R ru 3 rb 35) (c5 : At L C R ru 4 rm 36) (c6 : At L C R ru 5 rth 37) (c8 : At L C R ru 9 f9 39) (hT : Tb I ru rf rt rc rth w f9) (h7 : I rt 7 = 4) (h9 : I rt 9 = 3) (cl : ClF L C x R fi t p sh ru w al pa co ct) {th tcl tfl la kc kh mc mf mh a8 a9 cvl : Nat} (vx2 : At L C R x 2 co 2) (vcv : At L C R co 1 cvl 42) (ce : CelT L C x mo R th tcl tfl la kc kh mc mf mh) (h8 : At L C R kc 8 a8 53) (h9' : At L C R kc 9 a9 53) (n89 : a8 ≠ a9) {ch kp : Nat} (v5 : At L C R kc 5 ch 51) (v6 : At L C R kc 6 kp 52) {tg : Nat → Nat} {s0 j0 n : Nat} (hn : n ≤ 10) {Ia : hI} {R' : hR} (h : LkC L C fi sh kc ch kp I J R tg s0 j0 n Ia R') {xb : Int32} {fac at_ : Nat} (vfac : R (cmL fi sh I J R tg s0 j0 n) 7 = some fac) (mfac : fac ∈ L) (kfac : C fac = 55) (hat : (xb + I (cmL fi sh I J R tg s0 j0 n) 5).toNatClampNeg = at_) :
    ∃ I1 J1 R1 o, o = outA (arL fi sh I J R tg s0 j0) (fun k i => Ia (csL fi sh I J R tg s0 j0 k) i) (fun k => Ia (cmL fi sh I J R tg s0 j0 k) 1) (plL fi sh I J R tg s0 j0) (cvA rt rb rm f9 I) (fun s => J cvl s.toNatClampNeg) (J kh) n (wkC Ia (cmL fi sh I J R tg s0 j0 n) fac (arL fi sh I J R tg s0 j0 n) (J tfl at_)) ∧ F_X1_perform kc tfl xb Ia J R' = (if o.1.isSome = true then 1 else 0, (I1, J1, R1)) ∧ (∀ z j, ¬ (z = ru ∧ j = 11) → ¬ (z = la ∧ (j = 1 ∨ j = 2 ∨ j = 3 ∨ j = 4)) → I1 z j = Ia z j) ∧ (I1 la 3 = (if o.1.isSome = true then Ia la 3 + 1 else Ia la 3) ∧ I1 la 4 = (if o.1.isSome = true then Ia la 4 else Ia la 4 + 1)) ∧ (∀ z j, ¬ (z = ru ∧ j = 10) → ¬ (z = kc ∧ j = 10) → z ≠ a8 → z ≠ a9 → ¬ (z = tfl ∧ j = at_) → ¬ (z = la ∧ j = 0) → J1 z j = J z j) ∧ J1 tfl at_ = o.2.getD (J tfl at_) ∧ J1 la 0 = o.1.getD (J la 0) ∧ (∀ z j, ¬ (z = kc ∧ (j = 8 ∨ j = 9)) → R1 z j = R' z j) ∧ ∃ p q, R1 kc 8 = some p ∧ R1 kc 9 = some q ∧ ((p = a8 ∧ q = a9) ∨ (p = a9 ∧ q = a8)) := by
  obtain ⟨t1, t2, t3, t4, t5, t6, -⟩ := ce
  have kk := t5.2.1
  obtain ⟨hF, hR, oR', hk7, hpos, hpl⟩ := id h
  have hr := RlO (R := R) (p := 0) (i := 0) (j := 0) (k := 0) oI ⟨c0.1, c0.2.1⟩ ⟨c1.1, c1.2.1⟩ ⟨c2.1, c2.2.1⟩ ⟨c3.1, c3.2.1⟩
  have w0 : ∀ q, q < 49 → 0 ≤ (I w q).toInt := fun q hq => (hT.1.1 q hq).1
  have cd := h.chd oI oR cl w0
  have kr := c0.2.1
  have rR : ∀ z j r, C z = r → r ≠ 51 → R' z j = R z j := fun z j r hz h1 => hR z j (by rw [hz]; exact h1)
  have er : Ia ru = I ru := hF ru 6 kr (by decide)
  have erf : Ia rf = I rf := hF rf 32 c1.2.1 (by decide)
  have ert : Ia rt = I rt := hF rt 33 c2.2.1 (by decide)
  have erc : Ia rc = I rc := hF rc 34 c3.2.1 (by decide)
  have erb : Ia rb = I rb := hF rb 35 c4.2.1 (by decide)
  have erm : Ia rm = I rm := hF rm 36 c5.2.1 (by decide)
  have erh : Ia rth = I rth := hF rth 37 c6.2.1 (by decide)
  have ew : Ia w = I w := hF w 38 cl.2.2.2.2.2.1.2.1 (by decide)
  have e9 : Ia f9 = I f9 := hF f9 39 c8.2.1 (by decide)
  have hrA : Rl Ia ru rf rt rc := by unfold Rl at *; rw [er, erf, ert, erc]; exact hr
  have hTA : Tb Ia ru rf rt rc rth w f9 := hT.of (by rw [er]) erf ert erc erh ew e9
  have hby : ∀ z, z < 32 → -1000 ≤ (Ia rb z).toInt ∧ (Ia rb z).toInt ≤ 1000 := fun z hz => by
    have q := oI rb c4.1 z (by rw [c4.2.1]; exact hz)
    rw [c4.2.1] at q
    rw [erb]
    exact ⟨q.1, q.2.1⟩
  have hmo : ∀ z, z < 32 → -1000 ≤ (Ia rm z).toInt ∧ (Ia rm z).toInt ≤ 1000 := fun z hz => by
    have q := oI rm c5.1 z (by rw [c5.2.1]; exact hz)
    rw [c5.2.1] at q
    rw [erm]
    exact ⟨q.1, q.2.1⟩
  have ecv : cvA rt rb rm f9 Ia = cvA rt rb rm f9 I := by
    funext x y v
    unfold cvA sr
    rw [ert, erb, erm, e9]
  have evp : VpC w Ia = VpC w I := by
    funext x y
    unfold VpC
    rw [ew]
  have hcar : CarC ru (cvA rt rb rm f9 I) (VpC w I) Ia R' := by
    rw [← ecv, ← evp]
    exact carC ((rR ru 1 6 kr (by decide)).trans c2.2.2) ((rR ru 3 6 kr (by decide)).trans c4.2.2) ((rR ru 4 6 kr (by decide)).trans c5.2.2) ((rR ru 9 6 kr (by decide)).trans c8.2.2) (ne_role c2.2.1 kr (by decide)) (ne_role c4.2.1 kr (by decide)) (ne_role c5.2.1 kr (by decide)) (ne_role c8.2.1 kr (by decide)) hrA hTA (fun z hz => (hrA.2 z hz).2.1) hby hmo (by rw [ert]; exact h7) (by rw [ert]; exact h9)
  -- the caller's cells
  obtain ⟨z0, mz0, vz0, kz0⟩ := rf_1_0 oR t5.1 kk
  obtain rfl : z0 = ru := uq _ mz0 _ c0.1 (kz0.trans kr.symm) (by rw [kz0]; rfl)
  obtain ⟨z1, mz1, vz1, kz1⟩ := rf_1_1 oR t5.1 kk
  obtain rfl : z1 = co := uq _ mz1 _ vx2.1 (kz1.trans vx2.2.1.symm) (by rw [kz1]; rfl)
  obtain ⟨z3, mz3, vz3, kz3⟩ := rf_1_3 oR t5.1 kk
  obtain rfl : z3 = la := uq _ mz3 _ t4.1 (kz3.trans t4.2.1.symm) (by rw [kz3]; rfl)
  have k3 := t4.2.1
  have im : ∀ k, k ≤ n → Ia (cmL fi sh I J R tg s0 j0 k) = I (cmL fi sh I J R tg s0 j0 k) := fun k hk => hF _ 5 (cd.1 k hk).2.2.1 (by decide)
  have is : ∀ k, k ≤ n → Ia (csL fi sh I J R tg s0 j0 k) = I (csL fi sh I J R tg s0 j0 k) := fun k hk => hF _ 54 (cd.1 k hk).2.2.2.2.2.1 (by decide)
  have cx : ChC Ia R' kc z0 z1 cvl ch kp z3 n (cmL fi sh I J R tg s0 j0) (csL fi sh I J R tg s0 j0) (arL fi sh I J R tg s0 j0) (plL fi sh I J R tg s0 j0) (VpC w I) := by
    refine ⟨⟨(rR kc 0 1 kk (by decide)).trans vz0, (rR kc 1 1 kk (by decide)).trans vz1, (rR z1 1 2 vx2.2.1 (by decide)).trans vcv.2.2, (rR kc 3 1 kk (by decide)).trans vz3, (rR kc 5 1 kk (by decide)).trans v5.2.2, (rR kc 6 1 kk (by decide)).trans v6.2.2⟩, ⟨ne_role vcv.2.1 kr (by decide), ne_role v6.2.1 kr (by decide), ne_role kk kr (by decide), ne_role k3 kr (by decide), ne_role k3 kk (by decide), ne_role vx2.2.1 kk (by decide), ne_role v5.2.1 kk (by decide), ne_role vcv.2.1 kk (by decide)⟩, hn, fun k hk => ?_, fun k hk i hi => ?_⟩
    · obtain ⟨-, g1, g2, g3, g4, g5, g6, g7⟩ := cd.1 k hk
      exact ⟨(hpos k hk).2.2.2.2, (rR _ 3 5 g2 (by decide)).trans g3, by rw [im k hk]; exact g6, g7, ne_role g2 kr (by decide), ne_role g5 kr (by decide), ne_role g2 kk (by decide), ne_role g5 kk (by decide), ne_role g2 k3 (by decide), ne_role g5 k3 (by decide)⟩
    · refine ⟨(hpl k hk).2.2 i hi, ?_⟩
      rw [is k (by omega), is (k + 1) (by omega)]
      exact (cd.2 k hk).1 i hi
  obtain ⟨-, g1, g2, g3, g4, g5, g6, g7⟩ := cd.1 n (Nat.le_refl _)
  have cy : ChP Ia R' kc z0 z3 kh tfl fac cvl a8 a9 n (cmL fi sh I J R tg s0 j0 n) := by
    refine ⟨⟨(rR kc 4 1 kk (by decide)).trans t6.2.2, (rR kc 8 1 kk (by decide)).trans h8.2.2, (rR kc 9 1 kk (by decide)).trans h9'.2.2, (rR _ 7 5 g2 (by decide)).trans vfac⟩, ⟨n89, ne_role h8.2.1 kr (by decide), ne_role h9'.2.1 kr (by decide), ne_role vcv.2.1 h8.2.1 (by decide), ne_role vcv.2.1 h9'.2.1 (by decide), ne_role h8.2.1 kk (by decide), ne_role h9'.2.1 kk (by decide), ne_role t6.2.1 h8.2.1 (by decide), ne_role h8.2.1 t3.2.1 (by decide), ne_role h9'.2.1 t3.2.1 (by decide), ne_role t3.2.1 kk (by decide), ne_role t3.2.1 kr (by decide), ne_role k3 h8.2.1 (by decide), ne_role k3 h9'.2.1 (by decide), ne_role k3 t3.2.1 (by decide), ne_role kfac kr (by decide)⟩, hk7, fun i hi => ?_, ?_, ?_⟩
    · have q := oI fac mfac i (by rw [kfac]; exact hi)
      rw [kfac] at q
      rw [hF fac 55 kfac (by decide)]
      exact ⟨q.1, q.2.1⟩
    · rw [im n (Nat.le_refl _)]; exact rf_5_1 oI g1 g2
    · rw [im n (Nat.le_refl _)]; exact rf_5_4 oI g1 g2
  obtain ⟨-, f1, f2, f3, f4, f5, f6, f7⟩ := cd.1 0 (Nat.zero_le _)
  exact performE (kv := fun s => J cvl s.toNatClampNeg) cx cy hcar (fun i hi => by
    have q := oI _ f4 i (by rw [f5]; exact hi)
    rw [f5] at q
    rw [is 0 (Nat.zero_le _)]
    exact ⟨q.1, q.2.1⟩) (fun k hk => by rw [im k (by omega), im (k + 1) (by omega)]; exact (cd.2 k hk).2) (by rw [im n (Nat.le_refl _)]; exact hat) (fun _ => rfl)
end CHD
