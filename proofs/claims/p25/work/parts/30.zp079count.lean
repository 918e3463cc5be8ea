theorem held13 {a0 b : Nat} {I : hI} {J : hJ} {R : hR} : ∀ (f p : Nat) (s i : Int32), i.toInt = p → p ≤ 7 → 8 ≤ f + p → s = cntF (I b) p → F_X2_held_13 a0 b f I J R s i = cntF (I b) 7 := by
  intro f
  induction f with
  | zero => intro p s i _ _ _; omega
  | succ f ih =>
    intro p s i hi hp hf hs
    rw [F_X2_held_13_s]
    simp only [B_X2_held_13, F_X2_held_36, nm]
    by_cases h : p = 7
    · rw [if_pos (by rw [ile, hi, cI7]; omega), hs, h]
    · rw [if_neg (by rw [ile, hi, cI7]; omega), clamp_toInt hi]
      have e1 : (i + 1).toInt = ((p + 1 : Nat) : Int) := by rw [add1 (b := 7) (by omega) (by omega), hi]; omega
      by_cases h0 : I b p = 0
      · rw [if_pos h0]
        exact ih (p + 1) _ _ e1 (by omega) (by omega) (by show _ = cntF (I b) p + (if I b p = 0 then 0 else 1); rw [if_pos h0, hs])
      · rw [if_neg h0]
        exact ih (p + 1) _ _ e1 (by omega) (by omega) (by show _ = cntF (I b) p + (if I b p = 0 then 0 else 1); rw [if_neg h0, hs])
theorem cnt103 {mo b : Nat} {x1 : Int32} {I : hI} {J : hJ} {R : hR} (v : R mo 19 = some b) : ∀ (f p : Nat) (s i : Int32), i.toInt = p → p ≤ 7 → 8 ≤ f + p → s = cntF (I b) p → F_X11_count_103 mo x1 f I J R s i = (cntF (I b) 7, (I, J, R)) := by
  intro f
  induction f with
  | zero => intro p s i _ _ _; omega
  | succ f ih =>
    intro p s i hi hp hf hs
    rw [F_X11_count_103_s]
    simp only [B_X11_count_103, F_X11_count_124, nm, v, Option.getD_some]
    by_cases h : p = 7
    · rw [if_pos (by rw [ile, hi, cI7]; omega), hs, h]
    · rw [if_neg (by rw [ile, hi, cI7]; omega), clamp_toInt hi]
      have e1 : (i + 1).toInt = ((p + 1 : Nat) : Int) := by rw [add1 (b := 7) (by omega) (by omega), hi]; omega
      by_cases h0 : I b p = 0
      · rw [if_pos h0]
        exact ih (p + 1) _ _ e1 (by omega) (by omega) (by show _ = cntF (I b) p + (if I b p = 0 then 0 else 1); rw [if_pos h0, hs])
      · rw [if_neg h0]
        exact ih (p + 1) _ _ e1 (by omega) (by omega) (by show _ = cntF (I b) p + (if I b p = 0 then 0 else 1); rw [if_neg h0, hs])
theorem cnt58 {mo b n : Nat} {x1 : Int32} {I : hI} {J : hJ} {R : hR} (v : R mo 7 = some b) (hn : (I mo 1).toInt = n) (h32 : n ≤ 32) : ∀ (f p : Nat) (s i : Int32), i.toInt = p → p ≤ n → 33 ≤ f + p → s = cntF (I b) p → F_X11_count_58 mo x1 f I J R s i = (cntF (I b) n, (I, J, R)) := by
  intro f
  induction f with
  | zero => intro p s i _ _ _; omega
  | succ f ih =>
    intro p s i hi hp hf hs
    rw [F_X11_count_58_s]
    simp only [B_X11_count_58, F_X11_count_81, nm, v, Option.getD_some]
    by_cases h : p = n
    · rw [if_pos (by rw [ile, hi, hn]; omega), hs, h]
    · rw [if_neg (by rw [ile, hi, hn]; omega), clamp_toInt hi]
      have e1 : (i + 1).toInt = ((p + 1 : Nat) : Int) := by rw [add1 (b := 32) (by omega) (by omega), hi]; omega
      by_cases h0 : I b p = 0
      · rw [if_pos h0]
        exact ih (p + 1) _ _ e1 (by omega) (by omega) (by show _ = cntF (I b) p + (if I b p = 0 then 0 else 1); rw [if_pos h0, hs])
      · rw [if_neg h0]
        exact ih (p + 1) _ _ e1 (by omega) (by omega) (by show _ = cntF (I b) p + (if I b p = 0 then 0 else 1); rw [if_neg h0, hs])
theorem mem5 {x sh m8 lo : Nat} {x1 x2 : Int32} {I : hI} {J : hJ} {R : hR} (v : R x 4 = some sh) (h2 : x2.toInt = lo + 10) (hlo : lo ≤ 10) (hb : ∀ s, s < 20 → ∃ b, R sh s = some b ∧ I b 1 = I m8 s) : ∀ (f p : Nat) (s i : Int32), i.toInt = ((lo + p : Nat) : Int) → p ≤ 10 → 11 ≤ f + p → s = sumF (fun k => I m8 (lo + k)) p → F_X10_membersOf_5 x x1 x2 f I J R s i = sumF (fun k => I m8 (lo + k)) 10 := by
  intro f
  induction f with
  | zero => intro p s i _ _ _; omega
  | succ f ih =>
    intro p s i hi hp hf hs
    rw [F_X10_membersOf_5_s]
    simp only [B_X10_membersOf_5, nm, v, Option.getD_some]
    by_cases h : p = 10
    · rw [if_pos (by rw [ile, hi, h2]; omega), hs, h]
    · rw [if_neg (by rw [ile, hi, h2]; omega), clamp_toInt hi]
      obtain ⟨b, vb, eb⟩ := hb (lo + p) (by omega)
      rw [vb, Option.getD_some, eb]
      exact ih (p + 1) _ _ (by rw [add1 (b := 30) (by omega) (by omega), hi]; omega) (by omega) (by omega) (by show _ = sumF (fun k => I m8 (lo + k)) p + I m8 (lo + p); rw [hs])
theorem cnt136 {mo m8 lo : Nat} {x1 : Int32} {I : hI} {J : hJ} {R : hR} (v : R mo 8 = some m8) (h2 : (x1.toInt = 4 ∧ lo = 10) ∨ (x1.toInt = 5 ∧ lo = 0)) : ∀ (f p : Nat) (s i : Int32), i.toInt = p → p ≤ 10 → 11 ≤ f + p → s = sumF (fun k => I m8 (lo + k)) p → F_X11_count_136 mo x1 f I J R s i = (sumF (fun k => I m8 (lo + k)) 10, (I, J, R)) := by
  intro f
  induction f with
  | zero => intro p s i _ _ _; omega
  | succ f ih =>
    intro p s i hi hp hf hs
    rw [F_X11_count_136_s]
    simp only [B_X11_count_136, F_X11_count_160, nm, v, Option.getD_some]
    by_cases h : p = 10
    · rw [if_pos (by rw [ile, hi, cI10]; omega), hs, h]
    · rw [if_neg (by rw [ile, hi, cI10]; omega)]
      have e1 : (i + 1).toInt = ((p + 1 : Nat) : Int) := by rw [add1 (b := 10) (by omega) (by omega), hi]; omega
      rcases h2 with ⟨q, e⟩ | ⟨q, e⟩
      · rw [if_pos (by rw [ieq, q, cI4]), clamp_toInt (x := 10 + i) (k := 10 + p) (by rw [iadd cI10 hi (by omega) (by omega)]; omega)]
        subst e
        exact ih (p + 1) _ _ e1 (by omega) (by omega) (by show _ = sumF (fun k => I m8 (10 + k)) p + I m8 (10 + p); rw [hs])
      · rw [if_neg (by rw [ieq, q, cI4]; omega), clamp_toInt hi]
        subst e
        exact ih (p + 1) _ _ e1 (by omega) (by omega) (by show _ = sumF (fun k => I m8 (0 + k)) p + I m8 (0 + p); rw [hs, Nat.zero_add])
theorem st_count {L : List Nat} {C : Nat → Nat} {x mo : Nat} {I I2 : hI} {J J2 : hJ} {R R2 : hR} (uq : Uq L C) (mx : x ∈ L) (kx : C x = 10) (mm : mo ∈ L) (km : C mo = 11) (oI : OkI L C I) (oR : OkR L C R) (ow0 : Ow L C R) (rel : RXC L C x mo (I, J, R)) {x1 : Int32} {ra rb : Int32} (fa : F_X10_count x x1 I J R = ra) (oI1 : OkI L C I) (oR1 : OkR L C R) (fb : F_X11_count mo x1 I J R = (rb, (I2, J2, R2))) (sb : Sm C ms_X11_count (I, J, R) (I2, J2, R2)) (oI2 : OkI L C I2) (oR2 : OkR L C R2) : RXC L C x mo (I2, J2, R2) ∧ ra = rb := by
  refine ⟨RXC.sm rel oI2 oR2 sb (by decide), ?_⟩
  obtain ⟨⟨⟨-, ⟨relR, relM, relA, relC⟩, -⟩, -, -, th, tcl, tfl, la, kc, kh, mc, mf, mh, c, e, -⟩, hd⟩ := rel
  have c : CelT L C x mo R th tcl tfl la kc kh mc mf mh := c
  have e : EqT I J mo th tcl tfl la kh mc mf mh := e
  obtain ⟨c1, c2, c3, c4, c5, c6, c7, c8, c9⟩ := c
  obtain ⟨e1, e2, e3, e4, e5, e6, e7⟩ := e
  obtain ⟨ru, rth, a0, a6, eh⟩ := hd
  have a0 : At L C R x 0 ru 6 := a0
  have a6 : At L C R ru 5 rth 37 := a6
  have eh : I ru 7 = cntF (I rth) (I ru 6).toNatClampNeg := eh
  obtain ⟨-, -, ru', rf, rt, rc, rb', rm, rth', w, fi, mf', mt, mc', mb, mp, mi, cr, er, -⟩ := relR
  have cr : CelR L C x mo R ru' rf rt rc rb' rm rth' w fi mf' mt mc' mb mp mi := cr
  have er : EqR I mo ru' rf rt rc rb' rm rth' mf' mt mc' mb mp mi := er
  obtain ⟨d0, d1, d2, d3, d4, d5, d6, d7, d8, g1, g2, g3, g4, g5, g6⟩ := cr
  obtain ⟨r1, r2, r3, r4, r5, r6, r7, r8, r9, r10, r11⟩ := er
  obtain rfl : ru' = ru := Option.some.inj (d0.2.2.symm.trans a0.2.2)
  obtain rfl : rth' = rth := Option.some.inj (d6.2.2.symm.trans a6.2.2)
  obtain ⟨-, -, sh, m8, n9, y10, o11, e12, w13, f14, u15, t16, cm, em⟩ := relM
  have cm : CelM L C x mo R sh m8 n9 y10 o11 e12 w13 f14 u15 t16 := cm
  have em : ShEq I R sh m8 n9 y10 o11 e12 w13 f14 u15 t16 := em
  obtain ⟨b4, b8, -⟩ := cm
  obtain ⟨-, -, al, pa, ma, ca, ea⟩ := relA
  have ca : CelA L C x mo R al pa ma := ca
  have ea : EqA I mo al pa ma := ea
  obtain ⟨-, -, co, ct, cv, hc, hv, cc, ec⟩ := relC
  have cc : CelC L C x mo R co ct cv hc hv := cc
  have ec : EqC I J ct cv hc hv := ec
  obtain ⟨f2, f0, f1, f19, f20⟩ := cc
  have ne : ∀ c r, C c = r → r ≠ 11 → u2 I mo 0 0 c = I c := fun c r h q => u2_ne (ne_role h km q)
  have nk : ∀ k, k ≠ 0 → u2 I mo 0 0 mo k = I mo k := fun k h => u2_nk h
  have hsz : ∀ s, s < 20 → ∃ b, R sh s = some b ∧ I b 1 = I m8 s := fun s hs => by
    obtain ⟨b, mb', vb, kb⟩ := oR sh b4.1 s (by rw [b4.2.1]; exact hs) (by rw [b4.2.1]; exact fun q => absurd (show (8 : Nat) = 0 from q) (by decide))
    exact ⟨b, vb, (em s hs b vb).1⟩
  have t0 : (0 : Int32).toInt = ((0 : Nat) : Int) := by decide
  simp only [F_X10_count, F_X2_held, nm, a0.2.2, c1.2.2, ca.1.2.2, f2.2.2, f0.2.2, c4.2.2, Option.getD_some] at fa
  simp only [F_X11_count, nm] at fb
  by_cases h0 : x1.toInt = 0
  · rw [if_pos h0] at fa fb
    have hg : 0 ≤ (I mo 1).toInt ∧ (I mo 1).toInt ≤ 32 := rf_11_1 oI mm km
    have hn := nat_of (x := I mo 1) hg.1
    have e58 := cnt58 (mo := mo) (b := mi) (x1 := x1) (I := u2 I mo 0 0) (J := J) (R := R) (n := (I mo 1).toNatClampNeg) g6.2.2 (by rw [nk 1 (by decide)]; exact hn.symm) (by have := hg.2; omega) 33 0 0 0 t0 (Nat.zero_le _) (by decide) rfl
    (try rw [show ((32 - Int32.toInt 0).toNat + 1) = 33 by decide] at fb)
    rw [e58] at fb
    rw [← fa, ← (pairE fb).1, eh, r1, ne mi 69 g6.2.1 (by decide), r5]
  rw [if_neg h0] at fa fb
  by_cases h1 : x1.toInt = 1
  · rw [if_pos h1] at fa fb
    rw [← fa, ← (pairE fb).1, nk 21 (by decide), e1]
  rw [if_neg h1] at fa fb
  by_cases h2 : x1.toInt = 2
  · rw [if_pos h2] at fa fb
    rw [← fa, ← (pairE fb).1, nk 18 (by decide), ea.1]
  rw [if_neg h2] at fa fb
  by_cases h3 : x1.toInt = 3
  · rw [if_pos h3] at fa fb
    have e13 := held13 (a0 := co) (b := ct) (I := I) (J := J) (R := R) 8 0 0 0 t0 (Nat.zero_le _) (by decide) rfl
    have e103 := cnt103 (mo := mo) (b := hc) (x1 := x1) (I := u2 I mo 0 0) (J := J) (R := R) f19.2.2 8 0 0 0 t0 (Nat.zero_le _) (by decide) rfl
    (try rw [show ((7 - Int32.toInt 0).toNat + 1) = 8 by decide] at fa)
    rw [e13] at fa
    (try rw [show ((7 - Int32.toInt 0).toNat + 1) = 8 by decide] at fb)
    rw [e103] at fb
    rw [← fa, ← (pairE fb).1, ne hc 80 f19.2.1 (by decide), ec.1]
  rw [if_neg h3] at fa fb
  have mm4 : x1.toInt = 4 → ra = rb := fun h4 => by
    rw [if_pos h4] at fa fb
    simp only [F_X10_membersOf] at fa
    simp only [F_X11_count_134] at fb
    have e5 := mem5 (x := x) (sh := sh) (m8 := m8) (lo := 10) (x1 := 10) (x2 := 20) (I := I) (J := J) (R := R) b4.2.2 (by decide) (by omega) hsz 11 0 0 10 (by decide) (Nat.zero_le _) (by decide) rfl
    have e136 := cnt136 (mo := mo) (m8 := m8) (lo := 10) (x1 := x1) (I := u2 I mo 0 0) (J := J) (R := R) b8.2.2 (Or.inl ⟨h4, rfl⟩) 11 0 0 0 t0 (Nat.zero_le _) (by decide) rfl
    (try rw [show ((20 - Int32.toInt 10).toNat + 1) = 11 by decide] at fa)
    rw [e5] at fa
    (try rw [show ((10 - Int32.toInt 0).toNat + 1) = 11 by decide] at fb)
    rw [e136] at fb
    rw [← fa, ← (pairE fb).1, ne m8 70 b8.2.1 (by decide)]
  by_cases h4 : x1.toInt = 4
  · exact mm4 h4
  rw [if_neg h4] at fa fb
  by_cases h5 : x1.toInt = 5
  · rw [if_pos h5] at fa fb
    simp only [F_X10_membersOf] at fa
    simp only [F_X11_count_134] at fb
    have e5 := mem5 (x := x) (sh := sh) (m8 := m8) (lo := 0) (x1 := 0) (x2 := 10) (I := I) (J := J) (R := R) b4.2.2 (by decide) (by omega) hsz 21 0 0 0 (by decide) (Nat.zero_le _) (by decide) rfl
    have e136 := cnt136 (mo := mo) (m8 := m8) (lo := 0) (x1 := x1) (I := u2 I mo 0 0) (J := J) (R := R) b8.2.2 (Or.inr ⟨h5, rfl⟩) 11 0 0 0 t0 (Nat.zero_le _) (by decide) rfl
    (try rw [show ((20 - Int32.toInt 0).toNat + 1) = 21 by decide] at fa)
    rw [e5] at fa
    (try rw [show ((10 - Int32.toInt 0).toNat + 1) = 11 by decide] at fb)
    rw [e136] at fb
    rw [← fa, ← (pairE fb).1, ne m8 70 b8.2.1 (by decide)]
  rw [if_neg h5] at fa fb
  by_cases h6 : x1.toInt = 6
  · rw [if_pos h6] at fa fb
    rw [← fa, ← (pairE fb).1, nk 29 (by decide), e6]
  rw [if_neg h6] at fa fb
  by_cases h7 : x1.toInt = 7
  · rw [if_pos h7] at fa fb
    rw [← fa, ← (pairE fb).1, nk 30 (by decide), e7]
  rw [if_neg h7] at fa fb
  exact fa.symm.trans (pairE fb).1
