/-! aliases -/
def CelA (L : List Nat) (C : Nat → Nat) (x mo : Nat) (R : hR) (al pa ma : Nat) : Prop := At L C R x 1 al 0 ∧ At L C R al 0 pa 40 ∧ At L C R mo 17 ma 79
def EqA (I : hI) (mo al pa ma : Nat) : Prop := I al 1 = I mo 18 ∧ (0 ≤ (I al 1).toInt ∧ (I al 1).toInt ≤ 30) ∧ (∀ i j : Nat, (i : Int) < (I al 1).toInt → (j : Int) < (I al 1).toInt → I pa i = I pa j → i = j) ∧ ∀ k, k < 10000 → (I ma k = 0 ∨ I ma k = 1) ∧ (I ma k = 1 ↔ ∃ i : Nat, (i : Int) < (I al 1).toInt ∧ (I pa i).toInt = k)
def RA (L : List Nat) (C : Nat → Nat) (x mo : Nat) (u : hU) : Prop := C x = 10 ∧ C mo = 11 ∧ ∃ al pa ma : Nat, CelA L C x mo u.2.2 al pa ma ∧ EqA u.1 mo al pa ma
theorem RA.sm {L : List Nat} {C : Nat → Nat} {x mo : Nat} {ms : List Nat} {u v : hU} (rel : RA L C x mo u) (oR : OkR L C v.2.2) (s : Sm C ms u v) (hm : [641, 0, 1, 721, 722, 2560, 5056].all (fun z => !ms.contains z) = true) : RA L C x mo v := by
  obtain ⟨kx, km, al, pa, ma, ⟨c0, c1, c2⟩, e⟩ := rel
  have hn : ∀ z ∈ [641, 0, 1, 721, 722, 2560, 5056], ms.contains z = false := fun z hz => by have := List.all_eq_true.mp hm z hz; simpa using this
  refine ⟨kx, km, al, pa, ma, ⟨c0.sm s kx (hn 641 (by decide)), c1.sm s c0.2.1 (hn 0 (by decide)), c2.sm s km (hn 721 (by decide))⟩, ?_⟩
  unfold EqA at *
  rw [smO (k := 1) s c0.2.1 (hn 1 (by decide)), smO (k := 18) s km (hn 722 (by decide)), smA s c1.2.1 (by decide) (hn 2560 (by decide)), smA s c2.2.1 (by decide) (hn 5056 (by decide))]
  exact e
theorem RA.init {L : List Nat} {C : Nat → Nat} {x mo : Nat} {I : hI} {J : hJ} {R : hR} (z0 : Z0 L C I J) (oR : OkR L C R) (uq : Uq L C) (mx : x ∈ L) (kx : C x = 10) (mm : mo ∈ L) (km : C mo = 11) : RA L C x mo (I, J, R) := by
  obtain ⟨al, m1, v1, k1⟩ := rf_10_1 oR mx kx
  obtain ⟨pa, m2, v2, k2⟩ := rf_0_0 oR m1 k1
  obtain ⟨ma, m3, v3, k3⟩ := rf_11_17 oR mm km
  have h1 : I al 1 = 0 := z0.1 al m1 1 (by rw [k1]; rfl)
  have h2 : I mo 18 = 0 := z0.1 mo mm 18 (by rw [km]; rfl)
  have h3 : ∀ k, I ma k = 0 := fun k => z0.1 ma m3 k (by rw [k3]; rfl)
  refine ⟨kx, km, al, pa, ma, ⟨⟨m1, k1, v1⟩, ⟨m2, k2, v2⟩, ⟨m3, k3, v3⟩⟩, ?_⟩
  show EqA I mo al pa ma
  unfold EqA
  rw [h1, h2, cI0]
  refine ⟨rfl, ⟨by omega, by omega⟩, fun i j hi => by omega, fun k _ => ?_⟩
  rw [h3 k]
  exact ⟨Or.inl rfl, fun h => absurd h (by decide), fun ⟨i, h, _⟩ => by omega⟩
theorem key {x1 x2 : Int32} (h1 : 0 ≤ x1.toInt ∧ x1.toInt ≤ 99) (h2 : 0 ≤ x2.toInt ∧ x2.toInt ≤ 99) : (x1 * 100 + x2).toInt = 100 * x1.toInt + x2.toInt ∧ (100 * x1 + x2).toInt = 100 * x1.toInt + x2.toInt := by
  have m1 := imul (x := x1) (y := 100) rfl cI100 (by omega) (by omega)
  have m2 := imul (x := 100) (y := x1) cI100 rfl (by omega) (by omega)
  exact ⟨by rw [iadd m1 rfl (by omega) (by omega)]; omega, by rw [iadd m2 rfl (by omega) (by omega)]⟩
/-- placeOf(): where a pair stands, or -1 -/
theorem place_l {al pa : Nat} {x1 x2 : Int32} {I : hI} {J : hJ} {R : hR} (v : R al 0 = some pa) (hs : 0 ≤ (I al 1).toInt ∧ (I al 1).toInt ≤ 30) :
    ∀ (f p : Nat) (x : Int32), x.toInt = p → (p : Int) ≤ (I al 1).toInt → (I al 1).toInt < f + p → (∀ i : Nat, i < p → I pa i ≠ x1 * 100 + x2) →
      (F_X0_placeOf_2 al x1 x2 f I J R x = -1 ∧ ∀ i : Nat, (i : Int) < (I al 1).toInt → I pa i ≠ x1 * 100 + x2) ∨ ∃ i : Nat, (i : Int) < (I al 1).toInt ∧ I pa i = x1 * 100 + x2 ∧ (F_X0_placeOf_2 al x1 x2 f I J R x).toInt = i := by
  intro f
  induction f with
  | zero => intro p x _ q1 q2; omega
  | succ f ih =>
    intro p x hx hp hf hno
    rw [F_X0_placeOf_2_s]
    simp only [B_X0_placeOf_2, nm, v, Option.getD_some, clamp_toInt hx]
    by_cases e : (p : Int) = (I al 1).toInt
    · rw [if_pos (by rw [ile, hx]; omega)]
      exact Or.inl ⟨rfl, fun i hi => hno i (by omega)⟩
    · rw [if_neg (by rw [ile, hx]; omega)]
      by_cases q : I pa p = x1 * 100 + x2
      · rw [if_pos q]
        exact Or.inr ⟨p, by omega, q, hx⟩
      · rw [if_neg q]
        refine ih (p + 1) (x + 1) (by rw [add1 (b := 30) (by omega) (by omega), hx]; omega) (by omega) (by omega) (fun i hi => ?_)
        by_cases z : i = p
        · rw [z]; exact q
        · exact hno i (by omega)
theorem place {al pa : Nat} {x1 x2 : Int32} {I : hI} {J : hJ} {R : hR} (v : R al 0 = some pa) (hs : 0 ≤ (I al 1).toInt ∧ (I al 1).toInt ≤ 30) :
    (F_X0_placeOf al x1 x2 I J R = -1 ∧ ∀ i : Nat, (i : Int) < (I al 1).toInt → I pa i ≠ x1 * 100 + x2) ∨ ∃ i : Nat, (i : Int) < (I al 1).toInt ∧ I pa i = x1 * 100 + x2 ∧ (F_X0_placeOf al x1 x2 I J R).toInt = i :=
  place_l (J := J) v hs 31 0 0 (by decide) (by omega) (by omega) (fun i hi => by omega)
/-- one pair more, and one less -/
theorem EqA.add {I I2 : hI} {mo al pa ma k : Nat} {kk : Int32} (e : EqA I mo al pa ma) (hk : kk.toInt = k) (hlt : k < 10000) (hs : (I al 1).toInt < 30) (hno : ∀ i : Nat, (i : Int) < (I al 1).toInt → I pa i ≠ kk) (a1 : I2 al 1 = I al 1 + 1) (a2 : I2 mo 18 = I mo 18 + 1) (a3 : I2 pa = up (I pa) (I al 1).toNatClampNeg kk) (a4 : I2 ma = up (I ma) k 1) : EqA I2 mo al pa ma := by
  obtain ⟨e1, e2, e3, e4⟩ := e
  have hp := add1 (x := I al 1) (b := 30) (by omega) (by omega)
  have hn := nat_of e2.1
  unfold EqA
  rw [a1, a2, a3, a4, hp, e1]
  refine ⟨rfl, by rw [← e1]; omega, fun i j hi hj h => ?_, fun q hq => ?_⟩
  · rw [← e1] at hi hj h
    by_cases z1 : i = (I al 1).toNatClampNeg <;> by_cases z2 : j = (I al 1).toNatClampNeg
    · omega
    · rw [z1, up_at, up_ne z2] at h
      exact absurd h.symm (hno j (by omega))
    · rw [z2, up_at, up_ne z1] at h
      exact absurd h (hno i (by omega))
    · rw [up_ne z1, up_ne z2] at h
      exact e3 i j (by omega) (by omega) h
  · rw [← e1]
    by_cases z : q = k
    · subst z
      rw [up_at]
      refine ⟨Or.inr rfl, fun _ => ⟨(I al 1).toNatClampNeg, by omega, by rw [up_at]; exact hk⟩, fun _ => rfl⟩
    · rw [up_ne z]
      refine ⟨(e4 q hq).1, fun h => ?_, fun ⟨i, h1, h2⟩ => ?_⟩
      · obtain ⟨i, h1, h2⟩ := (e4 q hq).2.mp h
        exact ⟨i, by omega, by rw [up_ne (by omega)]; exact h2⟩
      · by_cases y : i = (I al 1).toNatClampNeg
        · rw [y, up_at, hk] at h2
          omega
        · rw [up_ne y] at h2
          exact (e4 q hq).2.mpr ⟨i, by omega, h2⟩
theorem EqA.del {I I2 : hI} {mo al pa ma k p : Nat} {kk : Int32} (e : EqA I mo al pa ma) (hk : kk.toInt = k) (hlt : k < 10000) (hp : (p : Int) < (I al 1).toInt) (hpk : I pa p = kk) (a1 : I2 al 1 = I al 1 - 1) (a2 : I2 mo 18 = I mo 18 - 1) (a3 : I2 pa = up (I pa) p (I pa (I al 1 - 1).toNatClampNeg)) (a4 : I2 ma = up (I ma) k 0) : EqA I2 mo al pa ma := by
  obtain ⟨e1, e2, e3, e4⟩ := e
  have hm := sub1 (x := I al 1) (b := 0) (by omega) (by omega)
  have hn := nat_of (x := I al 1 - 1) (by omega)
  unfold EqA
  rw [a1, a2, a3, a4, hm, e1]
  refine ⟨rfl, by rw [← e1]; omega, fun i j hi hj h => ?_, fun q hq => ?_⟩
  · rw [← e1] at hi hj h
    by_cases z1 : i = p <;> by_cases z2 : j = p
    · omega
    · rw [z1, up_at, up_ne z2] at h
      have := e3 _ j (by omega) (by omega) h
      omega
    · rw [z2, up_at, up_ne z1] at h
      have := e3 i _ (by omega) (by omega) h
      omega
    · rw [up_ne z1, up_ne z2] at h
      exact e3 i j (by omega) (by omega) h
  · rw [← e1]
    by_cases z : q = k
    · subst z
      rw [up_at]
      refine ⟨Or.inl rfl, fun h => absurd h (by decide), fun ⟨i, h1, h2⟩ => ?_⟩
      exfalso
      by_cases y : i = p
      · rw [y, up_at] at h2
        have := e3 (I al 1 - 1).toNatClampNeg p (by omega) hp (Int32.toInt_inj.mp (by rw [h2, hpk, hk]))
        omega
      · rw [up_ne y] at h2
        have := e3 i p (by omega) hp (Int32.toInt_inj.mp (by rw [h2, hpk, hk]))
        exact y this
    · rw [up_ne z]
      refine ⟨(e4 q hq).1, fun h => ?_, fun ⟨i, h1, h2⟩ => ?_⟩
      · obtain ⟨i, h1, h2⟩ := (e4 q hq).2.mp h
        have ip : i ≠ p := fun y => by rw [y, hpk, hk] at h2; omega
        by_cases y : i = (I al 1 - 1).toNatClampNeg
        · exact ⟨p, by omega, by rw [up_at, ← y]; exact h2⟩
        · exact ⟨i, by omega, by rw [up_ne ip]; exact h2⟩
      · by_cases y : i = p
        · rw [y, up_at] at h2
          exact (e4 q hq).2.mpr ⟨_, by omega, h2⟩
        · rw [up_ne y] at h2
          exact (e4 q hq).2.mpr ⟨i, by omega, h2⟩
theorem isN {x : Int32} : F_X10_isName x = if 0 ≤ x.toInt ∧ x.toInt ≤ 99 then 1 else 0 := by simp only [F_X10_isName, nm, isW, ite11, cI0, cI99]
theorem s2_alias {L : List Nat} {C : Nat → Nat} {x mo : Nat} {I I1 I2 : hI} {J J1 J2 : hJ} {R R1 R2 : hR} {x1 x2 x3 : Int32} (uq : Uq L C) (mx : x ∈ L) (kx : C x = 10) (mm : mo ∈ L) (km : C mo = 11) (hz : x3 = 0 ∨ x3 = 1) (oI : OkI L C I) (oR : OkR L C R) (ow0 : Ow L C R) (rel : RA L C x mo (I, J, R)) {ra rb : Int32} (fa : F_X10_alias x x1 x2 x3 I J R = (ra, (I1, J1, R1))) (sa : Sm C ms_X10_alias (I, J, R) (I1, J1, R1)) (oI1 : OkI L C I1) (oR1 : OkR L C R1) (fb : F_X11_alias mo x1 x2 x3 I1 J1 R1 = (rb, (I2, J2, R2))) (sb : Sm C ms_X11_alias (I1, J1, R1) (I2, J2, R2)) (oI2 : OkI L C I2) (oR2 : OkR L C R2) : RA L C x mo (I2, J2, R2) ∧ ra = rb := by
  have rel0 := rel
  obtain ⟨-, -, al, pa, ma, cc, e⟩ := rel
  have cc : CelA L C x mo R al pa ma := cc
  have e : EqA I mo al pa ma := e
  obtain ⟨c0, c1, c2⟩ := cc
  have e' := e
  obtain ⟨e1, e2, e3, e4⟩ := e'
  obtain ⟨wy, mwy, vwy, kwy⟩ := rf_10_5 oR mx kx
  obtain ⟨ww, mww, vww, kww⟩ := rf_9_2 oR mwy kwy
  simp only [F_X10_alias, F_X0_add, F_X0_remove, F_X0_has, nm, nmU, nmW, isN, ite1, c0.2.2, c1.2.2, vwy, Option.getD_some, forgetA vww] at fa
  simp only [F_X11_alias, F_X11_alias_34, F_X11_alias_68, F_X11_alias_70, F_X11_alias_92, nm, inM, ite1, Int32.toInt_toInt64, cJ0, cJ99] at fb
  have same : ∀ {K : hI} {r : Int32}, (ra, (I1, J1, R1)) = (r, (I, J, R)) → (rb, (I2, J2, R2)) = (r, (u2 I1 mo 0 0, J1, R1)) → RA L C x mo (I2, J2, R2) ∧ ra = rb := fun h1 h2 => by
    (obtain ⟨qa1, qa2, qa3, qa4⟩ := pairE h1.symm; subst qa1 qa2 qa3 qa4)
    (obtain ⟨qa1, qa2, qa3, qa4⟩ := pairE h2.symm; subst qa1 qa2 qa3 qa4)
    exact ⟨RA.sm (ms := [11 * 64]) rel0 oR (Sm.stI Sm.rf km (by decide)) rfl, rfl⟩
  by_cases h1 : 0 ≤ x1.toInt ∧ x1.toInt ≤ 99
  · rw [if_pos h1] at fa fb
    by_cases h2 : 0 ≤ x2.toInt ∧ x2.toInt ≤ 99
    · rw [if_pos h2] at fa fb
      by_cases h3 : x1 = x2
      · rw [if_pos h3] at fa fb
        exact same (K := I) fa.symm fb.symm
      · rw [if_neg h3] at fa fb
        obtain ⟨k1, k2⟩ := key h1 h2
        obtain ⟨k, hk⟩ : ∃ k : Nat, 100 * x1.toInt + x2.toInt = k := ⟨(100 * x1.toInt + x2.toInt).toNat, by omega⟩
        have hlt : k < 10000 := by omega
        have kn : (100 * x1 + x2).toNatClampNeg = k := clamp_toInt (by rw [k2]; exact hk)
        have kma : ∀ {K : hI}, u2 K mo 0 0 ma = K ma := fun {K} => u2_ne (ne_role c2.2.1 km (by decide))
        by_cases hx3 : x3 = 0
        · -- off
          rw [if_pos hx3] at fa
          rcases place (J := J) (x1 := x1) (x2 := x2) c1.2.2 e2 with ⟨p1, p2⟩ | ⟨p, p1, p2, p3⟩
          · rw [p1, if_pos rfl] at fa
            simp only [if_pos] at fa
            have m0 : I ma k = 0 := (e4 k hlt).1.resolve_right (fun h => by
              obtain ⟨i, i1, i2⟩ := (e4 k hlt).2.mp h
              exact p2 i i1 (Int32.toInt_inj.mp (by rw [i2, k1]; exact hk.symm)))
            (obtain ⟨qa1, qa2, qa3, qa4⟩ := pairE fa; subst qa1 qa2 qa3 qa4)
            simp only [c2.2.2, Option.getD_some, kn, kma] at fb
            rw [m0, if_pos hx3.symm] at fb
            exact same (K := I) rfl fb.symm
          · have np : ¬ F_X0_placeOf al x1 x2 I J R = -1 := fun h => by rw [h, cIm1] at p3; omega
            rw [if_neg np] at fa
            simp only [if_neg np] at fa
            rw [if_neg (show ¬ ((1 : Int32) = 0) by decide)] at fa
            have m1 : I ma k = 1 := (e4 k hlt).2.mpr ⟨p, p1, by rw [p2, k1]; exact hk⟩
            rw [clamp_toInt p3] at fa
            (obtain ⟨qa1, qa2, qa3, qa4⟩ := pairE fa; subst qa1 qa2 qa3 qa4)
            have f0 : ∀ c r, C c = r → r ≠ 45 → fillF (u2 (u2 I al 1 (I al 1 - 1)) pa p (u2 I al 1 (I al 1 - 1) pa (I al 1 - 1).toNatClampNeg)) ww 100 (-1) c = u2 (u2 I al 1 (I al 1 - 1)) pa p (u2 I al 1 (I al 1 - 1) pa (I al 1 - 1).toNatClampNeg) c := fun c r h q => fillF_ne (ne_role h kww q)
            have g1 : fillF (u2 (u2 I al 1 (I al 1 - 1)) pa p (u2 I al 1 (I al 1 - 1) pa (I al 1 - 1).toNatClampNeg)) ww 100 (-1) ma = I ma := by rw [f0 ma 79 c2.2.1 (by decide), u2_ne (ne_role c2.2.1 c1.2.1 (by decide)), u2_ne (ne_role c2.2.1 c0.2.1 (by decide))]
            have g2 : fillF (u2 (u2 I al 1 (I al 1 - 1)) pa p (u2 I al 1 (I al 1 - 1) pa (I al 1 - 1).toNatClampNeg)) ww 100 (-1) mo = I mo := by rw [f0 mo 11 km (by decide), u2_ne (ne_role km c1.2.1 (by decide)), u2_ne (ne_role km c0.2.1 (by decide))]
            have g3 : fillF (u2 (u2 I al 1 (I al 1 - 1)) pa p (u2 I al 1 (I al 1 - 1) pa (I al 1 - 1).toNatClampNeg)) ww 100 (-1) pa = up (I pa) p (I pa (I al 1 - 1).toNatClampNeg) := by rw [f0 pa 40 c1.2.1 (by decide), u2_up, u2_ne (ne_role c1.2.1 c0.2.1 (by decide))]
            have g4 : fillF (u2 (u2 I al 1 (I al 1 - 1)) pa p (u2 I al 1 (I al 1 - 1) pa (I al 1 - 1).toNatClampNeg)) ww 100 (-1) al 1 = I al 1 - 1 := by rw [f0 al 0 c0.2.1 (by decide), u2_ne (ne_role c0.2.1 c1.2.1 (by decide)), u2_at]
            obtain ⟨K, hK⟩ : ∃ K, K = fillF (u2 (u2 I al 1 (I al 1 - 1)) pa p (u2 I al 1 (I al 1 - 1) pa (I al 1 - 1).toNatClampNeg)) ww 100 (-1) := ⟨_, rfl⟩
            rw [← hK] at g1 g2 g3 g4 fb
            simp only [c2.2.2, Option.getD_some, kn, kma] at fb
            rw [g1, m1, if_neg (show ¬ ((1 : Int32) = x3) by rw [hx3]; decide), if_pos hx3, if_pos hx3] at fb
            (obtain ⟨qa1, qa2, qa3, qa4⟩ := pairE fb; subst qa1 qa2 qa3 qa4)
            refine ⟨⟨kx, km, al, pa, ma, ⟨c0, c1, c2⟩, EqA.del (kk := x1 * 100 + x2) e (by rw [k1]; exact hk) hlt p1 p2 ?_ ?_ ?_ ?_⟩, rfl⟩
            · show u2 _ mo 18 _ al 1 = _
              rw [u2_ne (ne_role c0.2.1 km (by decide)), u2_ne (ne_role c0.2.1 c2.2.1 (by decide)), u2_ne (ne_role c0.2.1 km (by decide)), g4]
            · show u2 _ mo 18 _ mo 18 = _
              rw [u2_at, u2_ne (ne_role km c2.2.1 (by decide)), u2_nk (by decide), g2]
              exact (Int32.sub_eq_add_neg _ _).symm
            · show u2 _ mo 18 _ pa = _
              rw [u2_ne (ne_role c1.2.1 km (by decide)), u2_ne (ne_role c1.2.1 c2.2.1 (by decide)), u2_ne (ne_role c1.2.1 km (by decide)), g3]
            · show u2 _ mo 18 _ ma = _
              rw [u2_ne (ne_role c2.2.1 km (by decide)), u2_up, u2_ne (ne_role c2.2.1 km (by decide)), g1, hx3]
        · -- on
          have hx1 : x3 = 1 := hz.resolve_left hx3
          rw [if_neg hx3] at fa
          have c30 : Int32.toInt 30 = 30 := by decide
          by_cases hf : (30 : Int32) ≤ I al 1
          · have hf' := Rg_le hf
            rw [c30] at hf'
            simp only [if_pos hf, if_pos] at fa
            (obtain ⟨qa1, qa2, qa3, qa4⟩ := pairE fa; subst qa1 qa2 qa3 qa4)
            simp only [c2.2.2, Option.getD_some, kn, kma, u2_nk (show (18 : Nat) ≠ 0 by decide)] at fb
            rw [if_neg hx3, if_pos (show I mo 18 = 30 by rw [← e1, ieq, c30]; omega)] at fb
            have q : (rb, (I2, J2, R2)) = ((0 : Int32), (u2 I mo 0 0, J, R)) := by
              by_cases z : I ma k = x3
              · rw [if_pos z] at fb; exact fb.symm
              · rw [if_neg z] at fb; exact fb.symm
            exact same (K := I) rfl q
          · have hf' := Rg_nle hf
            rw [c30] at hf'
            simp only [if_neg hf] at fa
            rcases place (J := J) (x1 := x1) (x2 := x2) c1.2.2 e2 with ⟨p1, p2⟩ | ⟨p, p1, p2, p3⟩
            · simp only [p1, if_pos, if_neg (show ¬ ((1 : Int32) = 0) by decide)] at fa
              have m0 : I ma k = 0 := (e4 k hlt).1.resolve_right (fun h => by
                obtain ⟨i, i1, i2⟩ := (e4 k hlt).2.mp h
                exact p2 i i1 (Int32.toInt_inj.mp (by rw [i2, k1]; exact hk.symm)))
              (obtain ⟨qa1, qa2, qa3, qa4⟩ := pairE fa; subst qa1 qa2 qa3 qa4)
              have f0 : ∀ c r, C c = r → r ≠ 45 → fillF (u2 (u2 I pa (I al 1).toNatClampNeg (x1 * 100 + x2)) al 1 (I al 1 + 1)) ww 100 (-1) c = u2 (u2 I pa (I al 1).toNatClampNeg (x1 * 100 + x2)) al 1 (I al 1 + 1) c := fun c r h q => fillF_ne (ne_role h kww q)
              have g1 : fillF (u2 (u2 I pa (I al 1).toNatClampNeg (x1 * 100 + x2)) al 1 (I al 1 + 1)) ww 100 (-1) ma = I ma := by rw [f0 ma 79 c2.2.1 (by decide), u2_ne (ne_role c2.2.1 c0.2.1 (by decide)), u2_ne (ne_role c2.2.1 c1.2.1 (by decide))]
              have g2 : fillF (u2 (u2 I pa (I al 1).toNatClampNeg (x1 * 100 + x2)) al 1 (I al 1 + 1)) ww 100 (-1) mo = I mo := by rw [f0 mo 11 km (by decide), u2_ne (ne_role km c0.2.1 (by decide)), u2_ne (ne_role km c1.2.1 (by decide))]
              have g3 : fillF (u2 (u2 I pa (I al 1).toNatClampNeg (x1 * 100 + x2)) al 1 (I al 1 + 1)) ww 100 (-1) pa = up (I pa) (I al 1).toNatClampNeg (x1 * 100 + x2) := by rw [f0 pa 40 c1.2.1 (by decide), u2_ne (ne_role c1.2.1 c0.2.1 (by decide)), u2_up]
              have g4 : fillF (u2 (u2 I pa (I al 1).toNatClampNeg (x1 * 100 + x2)) al 1 (I al 1 + 1)) ww 100 (-1) al 1 = I al 1 + 1 := by rw [f0 al 0 c0.2.1 (by decide), u2_at]
              obtain ⟨K, hK⟩ : ∃ K, K = fillF (u2 (u2 I pa (I al 1).toNatClampNeg (x1 * 100 + x2)) al 1 (I al 1 + 1)) ww 100 (-1) := ⟨_, rfl⟩
              rw [← hK] at g1 g2 g3 g4 fb
              simp only [c2.2.2, Option.getD_some, kn, kma, u2_nk (show (18 : Nat) ≠ 0 by decide)] at fb
              rw [g1, m0, if_neg (fun h => hx3 h.symm), if_neg hx3, congrFun g2 18, if_neg (show ¬ I mo 18 = 30 by rw [← e1, ieq, c30]; omega), if_neg hx3] at fb
              (obtain ⟨qa1, qa2, qa3, qa4⟩ := pairE fb; subst qa1 qa2 qa3 qa4)
              refine ⟨⟨kx, km, al, pa, ma, ⟨c0, c1, c2⟩, EqA.add (kk := x1 * 100 + x2) e (by rw [k1]; exact hk) hlt hf' p2 ?_ ?_ ?_ ?_⟩, rfl⟩
              · show u2 _ mo 18 _ al 1 = _
                rw [u2_ne (ne_role c0.2.1 km (by decide)), u2_ne (ne_role c0.2.1 c2.2.1 (by decide)), u2_ne (ne_role c0.2.1 km (by decide)), g4]
              · show u2 _ mo 18 _ mo 18 = _
                rw [u2_at, u2_ne (ne_role km c2.2.1 (by decide)), u2_nk (by decide), g2]
              · show u2 _ mo 18 _ pa = _
                rw [u2_ne (ne_role c1.2.1 km (by decide)), u2_ne (ne_role c1.2.1 c2.2.1 (by decide)), u2_ne (ne_role c1.2.1 km (by decide)), g3]
              · show u2 _ mo 18 _ ma = _
                rw [u2_ne (ne_role c2.2.1 km (by decide)), u2_up, u2_ne (ne_role c2.2.1 km (by decide)), g1, hx1]
            · have np : ¬ F_X0_placeOf al x1 x2 I J R = -1 := fun h => by rw [h, cIm1] at p3; omega
              simp only [if_neg np, if_neg (show ¬ ((1 : Int32) = 0) by decide), if_pos] at fa
              have m1 : I ma k = 1 := (e4 k hlt).2.mpr ⟨p, p1, by rw [p2, k1]; exact hk⟩
              (obtain ⟨qa1, qa2, qa3, qa4⟩ := pairE fa; subst qa1 qa2 qa3 qa4)
              simp only [c2.2.2, Option.getD_some, kn, kma] at fb
              rw [m1, if_pos hx1.symm] at fb
              exact same (K := I) rfl fb.symm
    · rw [if_neg h2] at fa fb
      exact same (K := I) fa.symm fb.symm
  · rw [if_neg h1] at fa fb
    exact same (K := I) fa.symm fb.symm
