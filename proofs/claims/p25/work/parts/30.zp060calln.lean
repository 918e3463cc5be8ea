/-! a chain of members, as both sides make it -/
def shpC (sh : Nat) (R : hR) (s : Nat) : Nat := (R sh s).getD 0
def memC (sh : Nat) (R : hR) (s j : Nat) : Nat := (R ((R (shpC sh R s) 0).getD 0) j).getD 0
noncomputable def stp (fi sh : Nat) (I : hI) (J : hJ) (R : hR) (s j s' : Nat) : Option (Nat × List Nat) := match oC fi (memC sh R s j) (shpC sh R s') I J R with
  | none => none
  | some q => some (q.2.1, q.2.2)
noncomputable def runL (fi sh : Nat) (I : hI) (J : hJ) (R : hR) (tg : Nat → Nat) (s0 j0 : Nat) : Nat → Option (Nat × Nat)
  | 0 => some (s0, j0)
  | k + 1 => match runL fi sh I J R tg s0 j0 k with
    | none => none
    | some q => match stp fi sh I J R q.1 q.2 (tg k) with
      | none => none
      | some r => some (tg k, r.1)
noncomputable def posL (fi sh : Nat) (I : hI) (J : hJ) (R : hR) (tg : Nat → Nat) (s0 j0 k : Nat) : Nat × Nat := (runL fi sh I J R tg s0 j0 k).getD (0, 0)
noncomputable def plsL (fi sh : Nat) (I : hI) (J : hJ) (R : hR) (tg : Nat → Nat) (s0 j0 k : Nat) : List Nat := match stp fi sh I J R (posL fi sh I J R tg s0 j0 k).1 (posL fi sh I J R tg s0 j0 k).2 (tg k) with
  | none => []
  | some r => r.2
/-- the cells of the ways -/
def Wz (C : Nat → Nat) (z : Nat) : Prop := C z = 9 ∨ C z = 45 ∨ C z = 47
section CHN
variable {L : List Nat} {C : Nat → Nat} {x mo : Nat} {I : hI} {J : hJ} {R : hR} {fi t p sh ru w al pa co ct : Nat}
theorem memF (oR : OkR L C R) (msh : sh ∈ L) (ksh : C sh = 57) {s j : Nat} (hs : s < 20) (hj : j < 6) : ∃ b ma f fs fac, R sh s = some b ∧ shpC sh R s = b ∧ b ∈ L ∧ C b = 7 ∧ R b 0 = some ma ∧ C ma = 56 ∧ R ma j = some f ∧ memC sh R s j = f ∧ f ∈ L ∧ C f = 5 ∧ R f 3 = some fs ∧ fs ∈ L ∧ C fs = 54 ∧ R f 7 = some fac ∧ fac ∈ L ∧ C fac = 55 := by
  obtain ⟨b, vb, mb, kb⟩ := shE oR msh ksh hs
  obtain ⟨ma, mma, vma, kma⟩ := rf_7_0 oR mb kb
  obtain ⟨f, mf, vf, kf⟩ := oR ma mma j (by rw [kma]; exact hj) (by rw [kma]; exact fun e => absurd (show (6 : Nat) = 0 from e) (by decide))
  rw [kma] at kf
  have kf : C f = 5 := Nat.succ.inj kf
  obtain ⟨fs, mfs, vfs, kfs⟩ := rf_5_3 oR mf kf
  obtain ⟨fac, mfa, vfa, kfa⟩ := rf_5_7 oR mf kf
  have e1 : shpC sh R s = b := by unfold shpC; rw [vb]; rfl
  exact ⟨b, ma, f, fs, fac, vb, e1, mb, kb, vma, kma, vf, by unfold memC; rw [e1, vma]; simp only [Option.getD_some]; rw [vf]; rfl, mf, kf, vfs, mfs, kfs, vfa, mfa, kfa⟩
/-- after k links, in the class -/
def LkC (L : List Nat) (C : Nat → Nat) (fi sh kc ch kp : Nat) (I : hI) (J : hJ) (R : hR) (tg : Nat → Nat) (s0 j0 k : Nat) (Ia : hI) (R' : hR) : Prop :=
  (∀ z r, C z = r → r ∉ exC → Ia z = I z) ∧ (∀ z j, C z ≠ 51 → R' z j = R z j) ∧ OkR L C R' ∧ (Ia kc 7).toInt = k ∧
  (∀ i, i ≤ k → runL fi sh I J R tg s0 j0 i = some (posL fi sh I J R tg s0 j0 i) ∧ (posL fi sh I J R tg s0 j0 i).1 < 20 ∧ (posL fi sh I J R tg s0 j0 i).2 < 6 ∧ ((posL fi sh I J R tg s0 j0 i).2 : Int) < (I (shpC sh R (posL fi sh I J R tg s0 j0 i).1) 1).toInt ∧ R' ch i = some (memC sh R (posL fi sh I J R tg s0 j0 i).1 (posL fi sh I J R tg s0 j0 i).2)) ∧
  (∀ i, i < k → oC fi (memC sh R (posL fi sh I J R tg s0 j0 i).1 (posL fi sh I J R tg s0 j0 i).2) (shpC sh R (tg i)) I J R ≠ none ∧ (posL fi sh I J R tg s0 j0 (i + 1)).1 = tg i ∧ ∀ j, j < (I (memC sh R (posL fi sh I J R tg s0 j0 (i + 1)).1 (posL fi sh I J R tg s0 j0 (i + 1)).2) 2).toNatClampNeg → Ia kp (4 * i + j) = cdg ((plsL fi sh I J R tg s0 j0 i).getD j 0))
theorem LkC.step (uq : Uq L C) (mx : x ∈ L) (kx : C x = 10) (mm : mo ∈ L) (km : C mo = 11) (oI : OkI L C I) (oR : OkR L C R) (rel : RF L C x mo (I, J, R)) (cl : ClF L C x R fi t p sh ru w al pa co ct) {kc ch kp : Nat} (a8 : C kc = 1) (v2 : R kc 2 = some fi) (v5 : At L C R kc 5 ch 51) (v6 : At L C R kc 6 kp 52) {tg : Nat → Nat} {s0 j0 k : Nat} (hk : k < 10) (htg : tg k < 20) {Ia : hI} {R' : hR} (h : LkC L C fi sh kc ch kp I J R tg s0 j0 k Ia R') :
    (runL fi sh I J R tg s0 j0 (k + 1) = none ∧ ∃ Ic, F_X1_link kc (shpC sh R (tg k)) Ia J R' = (0, (Ic, J, R')) ∧ (∀ z r, C z = r → r ∉ exC → Ic z = I z) ∧ ∀ z, Wz C z → Ic z = Ia z) ∨ (∃ I1 R1, F_X1_link kc (shpC sh R (tg k)) Ia J R' = (1, (I1, J, R1)) ∧ LkC L C fi sh kc ch kp I J R tg s0 j0 (k + 1) I1 R1 ∧ ∀ z, Wz C z → I1 z = Ia z) := by
  obtain ⟨hF, hR, oR', hk7, hpos, hpl⟩ := id h
  obtain ⟨r1, r2, r3, r4, r5⟩ := hpos k (Nat.le_refl _)
  generalize hP : posL fi sh I J R tg s0 j0 k = P at *
  have c4 := cl.2.2.2.1
  obtain ⟨b1, ma1, f, fs, fac, g1, g2, g3, g4, g5, g6, g7, g8, g9, g10, -⟩ := memF oR c4.1 c4.2.1 r2 r3
  obtain ⟨b, vb, mb, kb⟩ := shE oR c4.1 c4.2.1 htg
  have eb : shpC sh R (tg k) = b := by unfold shpC; rw [vb]; rfl
  rw [g2] at r4
  rw [g8] at r5
  obtain ⟨acs, Ic, q1, q2, q3⟩ := findX uq mx kx mm km oI oR rel oR' hF hR cl r2 htg g1 vb r3 r4 g5 g7
  obtain ⟨mab, mmab, vmab, kmab⟩ := rf_7_0 oR mb kb
  have hFc : ∀ z r, C z = r → r ∉ exC → Ic z = I z := fun z r hz hr => by
    have nq : ∀ c r', C c = r' → r' ∈ exC → z ≠ c := fun c r' hc hr' e => hr (by rw [← hz, e, hc]; exact hr')
    rw [q2.1 z (nq fi 3 cl.1.2.1 (by decide)) (nq t 43 cl.2.1.2.1 (by decide)) (nq p 44 cl.2.2.1.2.1 (by decide))]
    exact hF z r hz hr
  have nqw : ∀ z, Wz C z → ∀ c r', C c = r' → r' ≠ 9 → r' ≠ 45 → r' ≠ 47 → z ≠ c := fun z hz c r' hc h1 h2 h3 e => by
    unfold Wz at hz
    rw [e, hc] at hz
    omega
  have frc : ∀ z, Wz C z → Ic z = Ia z := fun z hz => q2.1 z (nqw z hz fi 3 cl.1.2.1 (by decide) (by decide) (by decide)) (nqw z hz t 43 cl.2.1.2.1 (by decide) (by decide) (by decide)) (nqw z hz p 44 cl.2.2.1.2.1 (by decide) (by decide) (by decide))
  have kch := v5.2.1
  have lk := linkC (t := t) (acs := acs) (Ib := Ia) (Ic := Ic) (ma := mab) ((hR kc 2 (by rw [a8]; decide)).trans v2) ((hR kc 5 (by rw [a8]; decide)).trans v5.2.2) ((hR kc 6 (by rw [a8]; decide)).trans v6.2.2) ((hR fi 6 (by rw [cl.1.2.1]; decide)).trans cl.2.2.1.2.2) r5 ((hR b 0 (by rw [kb]; decide)).trans vmab) hk7 hk (ne_role v6.2.1 a8 (by decide)) (ne_role cl.2.2.1.2.1 v6.2.1 (by decide)) q1 q2
  rw [eb]
  have est : stp fi sh I J R P.1 P.2 (tg k) = match oC fi f b I J R with
      | none => none
      | some q => some (q.2.1, q.2.2) := by unfold stp; rw [g8, eb]
  rcases lk with ⟨l1, l2⟩ | ⟨z, m, l, I1, l1, l2, l3, l4, l5, l6, l7⟩
  · refine Or.inl ⟨?_, Ic, l2, hFc, frc⟩
    simp only [runL, r1]
    rw [est, l1]
  · rw [l1] at q3 est
    have est : stp fi sh I J R P.1 P.2 (tg k) = some (m, l) := est
    obtain ⟨u1, u2', u3, u4⟩ := q3 _ rfl
    have u1 : m < 6 := u1
    obtain ⟨c, mc, vc, kc5⟩ := oR mab mmab m (by rw [kmab]; exact u1) (by rw [kmab]; exact fun e => absurd (show (6 : Nat) = 0 from e) (by decide))
    rw [kmab] at kc5
    have kc5 : C c = 5 := Nat.succ.inj kc5
    have hrun1 : runL fi sh I J R tg s0 j0 (k + 1) = some (tg k, m) := by
      simp only [runL, r1]
      rw [est]
    have hpos1 : posL fi sh I J R tg s0 j0 (k + 1) = (tg k, m) := by unfold posL; rw [hrun1]; rfl
    have hpls : plsL fi sh I J R tg s0 j0 k = l := by unfold plsL; rw [hP, est]
    have emem : memC sh R (tg k) m = c := by unfold memC; rw [eb, vmab]; simp only [Option.getD_some]; rw [vc]; rfl
    have er : (R' mab m).getD 0 = c := by rw [hR mab m (by rw [kmab]; decide), vc]; rfl
    rw [er] at l2
    have fr9 : ∀ z, Wz C z → I1 z = Ia z := fun z hz => by rw [l5 z (nqw z hz kc 1 a8 (by decide) (by decide) (by decide)) (nqw z hz kp 52 v6.2.1 (by decide) (by decide) (by decide)), frc z hz]
    refine Or.inr ⟨I1, _, l2, ⟨fun z' r hz hr => ?_, fun z' j hz => by rw [u2_ne (fun e => hz (by rw [e]; exact kch))]; exact hR z' j hz, OkR.st oR' kch mc (by rw [kc5]; rfl), l3, fun i hi => ?_, fun i hi => ?_⟩, fr9⟩
    · have nq : ∀ c r', C c = r' → r' ∈ exC → z' ≠ c := fun c r' hc hr' e => hr (by rw [← hz, e, hc]; exact hr')
      rw [l5 z' (nq kc 1 a8 (by decide)) (nq kp 52 v6.2.1 (by decide))]
      exact hFc z' r hz hr
    · by_cases e : i = k + 1
      · subst e
        rw [hpos1]
        refine ⟨hrun1, htg, u1, by rw [eb]; exact u2', ?_⟩
        rw [u2_at, emem]
      · obtain ⟨y1, y2, y3, y4, y5⟩ := (show _ from h.2.2.2.2.1 i (by omega))
        exact ⟨y1, y2, y3, y4, by rw [u2_nk e]; exact y5⟩
    · by_cases e : i = k
      · subst e
        rw [hP, hpos1, hpls, g8, eb]
        refine ⟨by rw [l1]; exact Option.some_ne_none _, rfl, fun j hj => ?_⟩
        rw [emem] at hj
        have hac := u4 mab c vmab vc
        have hac : (I c 2).toInt = acs m := hac
        have hj' : j < acs m := by
          have := nat_of (x := I c 2) (by rw [hac]; omega)
          omega
        have u3 : acs m ≤ 4 := u3
        rw [l6 j (by omega)]
        rcases q2.2.2 with ⟨y, -⟩ | ⟨y, m', l', y1, y2, y3, y4, y5⟩
        · rw [l1] at y; cases y
        · rw [l1] at y1
          cases y1
          exact y5 j hj'
      · obtain ⟨y1, y2, y3⟩ := h.2.2.2.2.2 i (by omega)
        refine ⟨y1, y2, fun j hj => ?_⟩
        have hb := y3 j hj
        obtain ⟨-, z2, z3, -, -⟩ := h.2.2.2.2.1 (i + 1) (by omega)
        obtain ⟨b', ma', f', fs', fac', e1, e2, e3, e4, e5, e6, e7, e8, e9, e10, -⟩ := memF oR c4.1 c4.2.1 z2 z3
        rw [e8] at hj
        have ga := rf_5_2 oI e9 e10
        have na := nat_of ga.1
        have hj4 : j < 4 := by have := ga.2; omega
        rw [l7 _ (Or.inl (by omega))]
        have nkp : kp ≠ fi ∧ kp ≠ t ∧ kp ≠ p := ⟨ne_role v6.2.1 cl.1.2.1 (by decide), ne_role v6.2.1 cl.2.1.2.1 (by decide), ne_role v6.2.1 cl.2.2.1.2.1 (by decide)⟩
        rw [q2.1 kp nkp.1 nkp.2.1 nkp.2.2]
        exact hb
end CHN
