/-! measure(): the table of weights and the first rules -/
def sr (I : hI) (rf e : Nat) : Nat := (I rf e).toNatClampNeg
def cs (I : hI) (rc e : Nat) : Int := (I rc e).toInt
def pe (I : hI) (ru rth e : Nat) : Prop := (e : Int) < (I ru 6).toInt ∧ (I rth e).toInt ≠ 0
def Rl (I : hI) (ru rf rt rc : Nat) : Prop := (0 ≤ (I ru 6).toInt ∧ (I ru 6).toInt ≤ 32) ∧ ∀ e, e < 32 → (0 ≤ (I rf e).toInt ∧ (I rf e).toInt ≤ 6) ∧ (0 ≤ (I rt e).toInt ∧ (I rt e).toInt ≤ 6) ∧ (0 ≤ (I rc e).toInt ∧ (I rc e).toInt ≤ 50)
/-- after the rules 0 .. p - 1 -/
def Rw (p : Nat) (I : hI) (ru rf rt rc rth : Nat) (D : Nat → Int) : Prop :=
  (∀ q, q < 49 → 0 ≤ D q ∧ D q ≤ 268435456) ∧ (∀ i, i < 7 → D (i * 7 + i) = 0) ∧ (∀ e, e < p → pe I ru rth e → D (sr I rf e * 7 + sr I rt e) ≤ 8 * cs I rc e + 1) ∧
    (∀ i j, i < 7 → j < 7 → i ≠ j → D (i * 7 + j) = 268435456 ∨ ∃ e, e < p ∧ pe I ru rth e ∧ sr I rf e = i ∧ sr I rt e = j ∧ D (i * 7 + j) = 8 * cs I rc e + 1)
theorem Rw.Fw {I : hI} {ru rf rt rc rth p : Nat} {D : Nat → Int} (hr : Rl I ru rf rt rc) (hp : (p : Int) = (I ru 6).toInt) (h : Rw p I ru rf rt rc rth D) : Fw 0 (fun e => 8 * cs I rc e + 1) (sr I rf) (sr I rt) (pe I ru rth) D := by
  obtain ⟨h1, h2, h3, h4⟩ := h
  refine ⟨h1, h2, fun i j m _ _ hm => by omega, fun e he => h3 e (by have := he.1; omega) he, fun i j hi hj ne hlt => ?_⟩
  rcases h4 i j hi hj ne with q | ⟨e, q1, q2, q3, q4, q5⟩
  · omega
  · refine ⟨e, q2, q3, ?_⟩
    rw [q4, h2 j hj]
    dsimp only
    omega
section MEAS
variable {ru rf rt rc rth w fi : Nat} {I0 : hI} {J : hJ} {R : hR}
theorem wgt {I : hI} {x : Int32} {e : Nat} (v2 : R ru 2 = some rc) (hx : x.toInt = e) (h : 0 ≤ (I rc e).toInt ∧ (I rc e).toInt ≤ 50) : (F_X6_weightOf ru x I J R).toInt = 8 * (I rc e).toInt + 1 := by
  simp only [F_X6_weightOf, nm, v2, Option.getD_some, clamp_toInt hx]
  have h1 := imul (x := 8) (y := I rc e) cI8 rfl (by omega) (by omega)
  exact iadd h1 cI1 (by omega) (by omega)
theorem meas1 (nw : ru ≠ w) : ∀ (f p : Nat) (x : Int32) (I : hI), x.toInt = p → p ≤ 7 → 7 < f + p → (∀ c, c ≠ w → I c = I0 c) → (∀ q, q < 49 → (I w q).toInt = if q % 8 = 0 ∧ q < 8 * p then 0 else 268435456) →
    ∃ I1, F_X6_measure_11 ru w f I J R x = F_X6_measure_37 ru w 33 I1 J R 0 ∧ (∀ c, c ≠ w → I1 c = I0 c) ∧ ∀ q, q < 49 → (I1 w q).toInt = if q % 8 = 0 then 0 else 268435456 := by
  intro f
  induction f with
  | zero => intro p x I _ h1 h2; omega
  | succ f ih =>
    intro p x I hx h1 h2 hf hI
    rw [F_X6_measure_11_s]
    simp only [B_X6_measure_11, nm]
    by_cases hp : p = 7
    · rw [if_pos (by rw [ile, hx, cI7]; omega)]
      refine ⟨I, rfl, hf, fun q hq => ?_⟩
      rw [hI q hq]
      by_cases h : q % 8 = 0
      · rw [if_pos h, if_pos ⟨h, by omega⟩]
      · rw [if_neg h, if_neg (fun z => h z.1)]
    · rw [if_neg (by rw [ile, hx, cI7]; omega)]
      have i1 : (x * 7 + x).toNatClampNeg = p * 7 + p := idx2 hx hx (show Int32.toInt 7 = ((7 : Nat) : Int) by decide) (by omega)
      rw [i1]
      exact ih (p + 1) (x + 1) (u2 I w (p * 7 + p) 0) (by rw [add1 (b := 7) (by omega) (by omega), hx]; omega) (by omega) (by omega) (fun c hc => by rw [u2_ne hc, hf c hc]) (fun q hq => by
        by_cases e : q = p * 7 + p
        · subst e
          rw [u2_at, cI0, if_pos (by omega)]
        · rw [u2_nk e, hI q hq]
          by_cases h : q % 8 = 0 ∧ q < 8 * p
          · rw [if_pos h, if_pos (by omega)]
          · rw [if_neg h, if_neg (by omega)])
theorem meas2 (v0 : R ru 0 = some rf) (v1 : R ru 1 = some rt) (v2 : R ru 2 = some rc) (v5 : R ru 5 = some rth) (n0 : ru ≠ w) (n1 : rf ≠ w) (n2 : rt ≠ w) (n3 : rc ≠ w) (n4 : rth ≠ w) (hr : Rl I0 ru rf rt rc) :
    ∀ (f p : Nat) (x : Int32) (I : hI), x.toInt = p → (p : Int) ≤ (I0 ru 6).toInt → (I0 ru 6).toInt < f + p → (∀ c, c ≠ w → I c = I0 c) → Rw p I0 ru rf rt rc rth (fun q => (I w q).toInt) →
    ∃ I1, F_X6_measure_37 ru w f I J R x = F_X6_measure_99 ru w 8 I1 J R 0 ∧ (∀ c, c ≠ w → I1 c = I0 c) ∧ Rw (I0 ru 6).toNatClampNeg I0 ru rf rt rc rth (fun q => (I1 w q).toInt) := by
  intro f
  induction f with
  | zero => intro p x I _ h1 h2; omega
  | succ f ih =>
    intro p x I hx h1 h2 hf hI
    rw [F_X6_measure_37_s]
    simp only [B_X6_measure_37, F_X6_measure_91, nm, v0, v1, v5, Option.getD_some, hf ru n0, hf rf n1, hf rt n2, hf rth n4, clamp_toInt hx]
    by_cases hp : (p : Int) = (I0 ru 6).toInt
    · rw [if_pos (by rw [ile, hx]; omega)]
      refine ⟨I, rfl, hf, ?_⟩
      rw [show (I0 ru 6).toNatClampNeg = p from clamp_toInt hp.symm]
      exact hI
    · rw [if_neg (by rw [ile, hx]; omega)]
      have hx1 : (x + 1).toInt = ((p + 1 : Nat) : Int) := by have := hr.1.2; rw [add1 (b := 32) (by omega) (by omega), hx]; omega
      obtain ⟨r1, r2, r3⟩ := hr.2 p (by have := hr.1.2; omega)
      by_cases ht : I0 rth p = 0
      · rw [if_pos ht]
        refine ih (p + 1) (x + 1) I hx1 (by omega) (by omega) hf ?_
        obtain ⟨a1, a2, a3, a4⟩ := hI
        refine ⟨a1, a2, fun e he hpe => ?_, fun i j hi hj ne => ?_⟩
        · by_cases q : e = p
          · subst q
            exact absurd (by rw [ht]; decide) hpe.2
          · exact a3 e (by omega) hpe
        · exact (a4 i j hi hj ne).imp id (fun ⟨e, q1, q⟩ => ⟨e, by omega, q⟩)
      · rw [if_neg ht]
        have hpe : pe I0 ru rth p := ⟨by omega, fun h => ht (eq0.mpr h)⟩
        have c7 : Int32.toInt 7 = ((7 : Nat) : Int) := by decide
        have ef : (I0 rf p).toInt = (sr I0 rf p : Nat) := (nat_of r1.1).symm
        have et : (I0 rt p).toInt = (sr I0 rt p : Nat) := (nat_of r2.1).symm
        have bf : sr I0 rf p < 7 := by omega
        have bt : sr I0 rt p < 7 := by omega
        have i1 : (I0 rf p * 7 + I0 rt p).toNatClampNeg = sr I0 rf p * 7 + sr I0 rt p := idx2 ef et c7 (by omega)
        rw [i1]
        have hw := wgt (I := I) (J := J) v2 hx (by rw [hf rc n3]; exact r3)
        rw [hf rc n3] at hw
        obtain ⟨a1, a2, a3, a4⟩ := hI
        have a1 : ∀ q, q < 49 → 0 ≤ (I w q).toInt ∧ (I w q).toInt ≤ 268435456 := a1
        have a2 : ∀ i, i < 7 → (I w (i * 7 + i)).toInt = 0 := a2
        have a3 : ∀ e, e < p → pe I0 ru rth e → (I w (sr I0 rf e * 7 + sr I0 rt e)).toInt ≤ 8 * cs I0 rc e + 1 := a3
        have a4 : ∀ i j, i < 7 → j < 7 → i ≠ j → (I w (i * 7 + j)).toInt = 268435456 ∨ ∃ e, e < p ∧ pe I0 ru rth e ∧ sr I0 rf e = i ∧ sr I0 rt e = j ∧ (I w (i * 7 + j)).toInt = 8 * cs I0 rc e + 1 := a4
        have b0 := a1 (sr I0 rf p * 7 + sr I0 rt p) (by omega)
        obtain ⟨mn, hmn⟩ : ∃ z, z = F_J9_min_7cf53 (I w (sr I0 rf p * 7 + sr I0 rt p)) (F_X6_weightOf ru x I J R) := ⟨_, rfl⟩
        have hmi : mn.toInt = min (I w (sr I0 rf p * 7 + sr I0 rt p)).toInt (8 * cs I0 rc p + 1) := by rw [hmn, minI, hw]; rfl
        rw [← hmn]
        have hc0 : 0 ≤ cs I0 rc p := r3.1
        refine ih (p + 1) (x + 1) (u2 I w (sr I0 rf p * 7 + sr I0 rt p) mn) hx1 (by omega) (by omega) (fun c hc => by rw [u2_ne hc, hf c hc]) ?_
        have up1 : ∀ q, (u2 I w (sr I0 rf p * 7 + sr I0 rt p) mn w q).toInt = if q = sr I0 rf p * 7 + sr I0 rt p then min (I w (sr I0 rf p * 7 + sr I0 rt p)).toInt (8 * cs I0 rc p + 1) else (I w q).toInt := fun q => by
          by_cases e : q = sr I0 rf p * 7 + sr I0 rt p
          · rw [if_pos e, e, u2_at, hmi]
          · rw [if_neg e, u2_nk e]
        refine ⟨fun q hq => ?_, fun i hi => ?_, fun e he hpe1 => ?_, fun i j hi hj ne => ?_⟩
        · have := a1 q hq
          dsimp only
          rw [up1]
          split <;> omega
        · have := a2 i hi
          dsimp only
          rw [up1]
          by_cases e : i * 7 + i = sr I0 rf p * 7 + sr I0 rt p
          · rw [if_pos e, ← e]; omega
          · rw [if_neg e]; exact this
        · dsimp only
          rw [up1]
          by_cases q : e = p
          · subst q
            rw [if_pos rfl]; omega
          · have := a3 e (by omega) hpe1
            by_cases e1 : sr I0 rf e * 7 + sr I0 rt e = sr I0 rf p * 7 + sr I0 rt p
            · rw [if_pos e1, ← e1]; omega
            · rw [if_neg e1]; exact this
        · dsimp only
          rw [up1]
          by_cases e1 : i * 7 + j = sr I0 rf p * 7 + sr I0 rt p
          · rw [if_pos e1]
            have ei : sr I0 rf p = i := by omega
            have ej : sr I0 rt p = j := by omega
            by_cases q : 8 * cs I0 rc p + 1 ≤ (I w (sr I0 rf p * 7 + sr I0 rt p)).toInt
            · exact Or.inr ⟨p, by omega, hpe, ei, ej, by omega⟩
            · rw [← e1] at q ⊢
              exact (a4 i j hi hj ne).imp (fun h => by omega) (fun ⟨e, q1, q2, q3, q4, q5⟩ => ⟨e, by omega, q2, q3, q4, by omega⟩)
          · rw [if_neg e1]
            exact (a4 i j hi hj ne).imp id (fun ⟨e, q1, q⟩ => ⟨e, by omega, q⟩)
theorem meas3 (v8 : R ru 8 = some w) {wf : Nat → Int} {src dst : Nat → Nat} {pr : Nat → Prop} (hE : ∀ e, pr e → src e < 7 ∧ dst e < 7) :
    ∀ (f p : Nat) (x : Int32) (I : hI), x.toInt = p → p ≤ 7 → 7 < f + p → (∀ c, c ≠ w → I c = I0 c) → Fw p wf src dst pr (fun q => (I w q).toInt) →
    ∃ I1, F_X6_measure_99 ru w f I J R x = F_X6_measure_118 ru w 50 I1 J R 0 ∧ (∀ c, c ≠ w → I1 c = I0 c) ∧ Fw 7 wf src dst pr (fun q => (I1 w q).toInt) := by
  intro f
  induction f with
  | zero => intro p x I _ h1 h2; omega
  | succ f ih =>
    intro p x I hx h1 h2 hf hI
    rw [F_X6_measure_99_s]
    simp only [B_X6_measure_99, nm, nmW]
    by_cases hp : p = 7
    · rw [if_pos (by rw [ile, hx, cI7]; omega)]
      subst hp
      exact ⟨I, rfl, hf, hI⟩
    · rw [if_neg (by rw [ile, hx, cI7]; omega)]
      obtain ⟨I1, e1, e2, e3⟩ := short (J := J) v8 hx (by omega) hI.1 (hI.2.1 p (by omega)) (fun q _ => rfl)
      rw [e1]
      exact ih (p + 1) (x + 1) I1 (by rw [add1 (b := 7) (by omega) (by omega), hx]; omega) (by omega) (by omega) (fun c hc => by rw [e2 c hc, hf c hc]) (hI.step hE (by omega) e3)
/-- the first rule that keeps the weight -/
theorem first_l (v0 : R ru 0 = some rf) (v1 : R ru 1 = some rt) (v2 : R ru 2 = some rc) (v5 : R ru 5 = some rth) {I : hI} {x1 x2 y2 y3 : Int32} {i j : Nat} (hr : Rl I ru rf rt rc) (h1 : x1.toInt = i) (h2 : x2.toInt = j) (hi : i < 7) (hj : j < 7) (hw : ∀ q, q < 49 → 0 ≤ (I w q).toInt ∧ (I w q).toInt ≤ 268435456) (hlt : (I w (i * 7 + j)).toInt < 268435456) :
    ∀ (f p : Nat) (x : Int32), x.toInt = p → (p : Int) ≤ (I ru 6).toInt → (I ru 6).toInt < f + p → (∃ e, p ≤ e ∧ pe I ru rth e ∧ sr I rf e = i ∧ 8 * cs I rc e + 1 + (I w (sr I rt e * 7 + j)).toInt = (I w (i * 7 + j)).toInt) →
      ∃ e0 : Nat, (F_X6_firstOf_15 ru x1 x2 (I w (i * 7 + j)) w y2 y3 f I J R x).toInt = e0 ∧ p ≤ e0 ∧ pe I ru rth e0 ∧ sr I rf e0 = i ∧ 8 * cs I rc e0 + 1 + (I w (sr I rt e0 * 7 + j)).toInt = (I w (i * 7 + j)).toInt ∧ ∀ e, p ≤ e → pe I ru rth e → sr I rf e = i → 8 * cs I rc e + 1 + (I w (sr I rt e * 7 + j)).toInt = (I w (i * 7 + j)).toInt → e0 ≤ e := by
  intro f
  induction f with
  | zero => intro p x _ h1 h2; omega
  | succ f ih =>
    intro p x hx hp1 hp2 hex
    rw [F_X6_firstOf_15_s]
    simp only [B_X6_firstOf_15, F_X6_firstOf_82, nm, v0, v1, v5, Option.getD_some, clamp_toInt hx]
    obtain ⟨ee, g1, g2, g3, g4⟩ := hex
    have hlt2 : (p : Int) < (I ru 6).toInt := by have := g2.1; omega
    rw [if_neg (by rw [ile, hx]; omega), if_neg (by rw [ile, show Int32.toInt 268435456 = 268435456 by decide]; omega)]
    have hx1 : (x + 1).toInt = ((p + 1 : Nat) : Int) := by have := hr.1.2; rw [add1 (b := 32) (by omega) (by omega), hx]; omega
    obtain ⟨r1, r2, r3⟩ := hr.2 p (by have := hr.1.2; omega)
    have ef : (I rf p).toInt = (sr I rf p : Nat) := (nat_of r1.1).symm
    have et : (I rt p).toInt = (sr I rt p : Nat) := (nat_of r2.1).symm
    have next : ¬ (pe I ru rth p ∧ sr I rf p = i ∧ 8 * cs I rc p + 1 + (I w (sr I rt p * 7 + j)).toInt = (I w (i * 7 + j)).toInt) → ∃ e0 : Nat, (F_X6_firstOf_15 ru x1 x2 (I w (i * 7 + j)) w y2 y3 f I J R (x + 1)).toInt = e0 ∧ p ≤ e0 ∧ pe I ru rth e0 ∧ sr I rf e0 = i ∧ 8 * cs I rc e0 + 1 + (I w (sr I rt e0 * 7 + j)).toInt = (I w (i * 7 + j)).toInt ∧ ∀ e, p ≤ e → pe I ru rth e → sr I rf e = i → 8 * cs I rc e + 1 + (I w (sr I rt e * 7 + j)).toInt = (I w (i * 7 + j)).toInt → e0 ≤ e := fun hno => by
      have nee : ee ≠ p := fun q => by subst q; exact hno ⟨g2, g3, g4⟩
      obtain ⟨e0, q1, q2, q3, q4, q5, q6⟩ := ih (p + 1) (x + 1) hx1 (by omega) (by omega) ⟨ee, by omega, g2, g3, g4⟩
      refine ⟨e0, q1, by omega, q3, q4, q5, fun e z1 z2 z3 z4 => ?_⟩
      have : e ≠ p := fun q => by subst q; exact hno ⟨z2, z3, z4⟩
      exact q6 e (by omega) z2 z3 z4
    by_cases ht : I rth p = 0
    · rw [if_pos ht]
      exact next (fun h => h.1.2 (by rw [ht]; decide))
    · rw [if_neg ht]
      by_cases hf : I rf p = x1
      · rw [if_pos hf]
        have ei : sr I rf p = i := by rw [hf, h1] at ef; omega
        have c7 : Int32.toInt 7 = ((7 : Nat) : Int) := by decide
        have i1 : (I rt p * 7 + x2).toNatClampNeg = sr I rt p * 7 + j := idx2 et h2 c7 (by omega)
        rw [i1]
        have hw1 := wgt (I := I) (J := J) v2 hx r3
        have b1 := hw (sr I rt p * 7 + j) (by omega)
        have s1 := iadd hw1 (rfl : (I w (sr I rt p * 7 + j)).toInt = _) (by omega) (by omega)
        by_cases hc : F_X6_weightOf ru x I J R + I w (sr I rt p * 7 + j) = I w (i * 7 + j)
        · rw [if_pos hc]
          refine ⟨p, hx, Nat.le_refl _, ⟨hlt2, fun h => ht (eq0.mpr h)⟩, ei, ?_, fun e z1 _ _ _ => z1⟩
          rw [← hc, s1]
          rfl
        · rw [if_neg hc]
          refine next (fun h => hc ?_)
          rw [ieq, s1]
          exact h.2.2
      · rw [if_neg hf]
        refine next (fun h => hf ?_)
        rw [ieq, h1, ef, h.2.1]
end MEAS
theorem Fw.eq {wf : Nat → Int} {src dst : Nat → Nat} {pr : Nat → Prop} {D : Nat → Int} (hE : ∀ e, pr e → src e < 7 ∧ dst e < 7) (h : Fw 7 wf src dst pr D) {i j : Nat} (hi : i < 7) (hj : j < 7) (ne : i ≠ j) (hlt : D (i * 7 + j) < 268435456) : ∃ e, pr e ∧ src e = i ∧ wf e + D (dst e * 7 + j) = D (i * 7 + j) := by
  obtain ⟨e, q1, q2, q3⟩ := h.2.2.2.2 i j hi hj ne hlt
  obtain ⟨s1, s2⟩ := hE e q1
  have t1 := h.2.2.1 i j (dst e) hi hj s2
  have t2 := h.2.2.2.1 e q1
  rw [q2] at t2
  exact ⟨e, q1, q2, by omega⟩
/-- the class's tables are right -/
def Fi (I : hI) (ru rf rt rc rth w : Nat) (i j : Nat) (v : Int32) : Prop := ∃ e0 : Nat, v.toInt = e0 ∧ pe I ru rth e0 ∧ sr I rf e0 = i ∧ 8 * cs I rc e0 + 1 + (I w (sr I rt e0 * 7 + j)).toInt = (I w (i * 7 + j)).toInt ∧ ∀ e, pe I ru rth e → sr I rf e = i → 8 * cs I rc e + 1 + (I w (sr I rt e * 7 + j)).toInt = (I w (i * 7 + j)).toInt → e0 ≤ e
def Tb (I : hI) (ru rf rt rc rth w fi : Nat) : Prop := Fw 7 (fun e => 8 * cs I rc e + 1) (sr I rf) (sr I rt) (pe I ru rth) (fun q => (I w q).toInt) ∧ ∀ i j, i < 7 → j < 7 → i ≠ j → (I w (i * 7 + j)).toInt < 268435456 → Fi I ru rf rt rc rth w i j (I fi (i * 7 + j))
theorem Fi.of {I I1 : hI} {ru rf rt rc rth w i j : Nat} {v : Int32} (h : Fi I ru rf rt rc rth w i j v) (e0 : I1 ru = I ru) (e1 : I1 rf = I rf) (e2 : I1 rt = I rt) (e3 : I1 rc = I rc) (e4 : I1 rth = I rth) (e5 : I1 w = I w) : Fi I1 ru rf rt rc rth w i j v := by
  unfold Fi pe sr cs at *
  rw [e0, e1, e2, e3, e4, e5]
  exact h
theorem Tb.of {I I1 : hI} {ru rf rt rc rth w fi : Nat} (h : Tb I ru rf rt rc rth w fi) (e0 : I1 ru 6 = I ru 6) (e1 : I1 rf = I rf) (e2 : I1 rt = I rt) (e3 : I1 rc = I rc) (e4 : I1 rth = I rth) (e5 : I1 w = I w) (e6 : I1 fi = I fi) : Tb I1 ru rf rt rc rth w fi := by
  unfold Tb Fi pe sr cs at *
  rw [e0, e1, e2, e3, e4, e5, e6]
  exact h
theorem peR {I : hI} {ru rf rt rc rth : Nat} (hr : Rl I ru rf rt rc) : ∀ e, pe I ru rth e → sr I rf e < 7 ∧ sr I rt e < 7 := fun e he => by
  obtain ⟨r1, r2, r3⟩ := hr.2 e (by have := hr.1.2; have := he.1; omega)
  have ef : (I rf e).toInt = (sr I rf e : Nat) := (nat_of r1.1).symm
  have et : (I rt e).toInt = (sr I rt e : Nat) := (nat_of r2.1).symm
  exact ⟨by omega, by omega⟩
section MEAS2
variable {ru rf rt rc rth w fi : Nat} {J : hJ} {R : hR}
theorem meas4 (v0 : R ru 0 = some rf) (v1 : R ru 1 = some rt) (v2 : R ru 2 = some rc) (v5 : R ru 5 = some rth) (v8 : R ru 8 = some w) (v9 : R ru 9 = some fi) (m0 : ru ≠ fi) (m1 : rf ≠ fi) (m2 : rt ≠ fi) (m3 : rc ≠ fi) (m4 : rth ≠ fi) (m5 : w ≠ fi) {I0 : hI} (hr : Rl I0 ru rf rt rc) (hF : Fw 7 (fun e => 8 * cs I0 rc e + 1) (sr I0 rf) (sr I0 rt) (pe I0 ru rth) (fun q => (I0 w q).toInt)) :
    ∀ (f p : Nat) (x : Int32) (I : hI), x.toInt = p → p ≤ 49 → 49 < f + p → (∀ c, c ≠ fi → I c = I0 c) → (∀ q, q < p → q / 7 ≠ q % 7 → (I0 w q).toInt < 268435456 → Fi I0 ru rf rt rc rth w (q / 7) (q % 7) (I fi q)) →
    ∃ I1, F_X6_measure_118 ru w f I J R x = (I1, J, R) ∧ (∀ c, c ≠ fi → I1 c = I0 c) ∧ ∀ q, q < 49 → q / 7 ≠ q % 7 → (I0 w q).toInt < 268435456 → Fi I0 ru rf rt rc rth w (q / 7) (q % 7) (I1 fi q) := by
  intro f
  induction f with
  | zero => intro p x I _ h1 h2; omega
  | succ f ih =>
    intro p x I hx h1 h2 hf hI
    rw [F_X6_measure_118_s]
    simp only [B_X6_measure_118, nm, v9, Option.getD_some, clamp_toInt hx]
    by_cases hp : p = 49
    · rw [if_pos (by rw [ile, hx, show Int32.toInt 49 = 49 by decide]; omega)]
      subst hp
      exact ⟨I, rfl, hf, hI⟩
    · rw [if_neg (by rw [ile, hx, show Int32.toInt 49 = 49 by decide]; omega)]
      obtain ⟨z, hz⟩ : ∃ z, z = F_X6_firstOf ru (x / 7) (x - x / 7 * 7) I J R := ⟨_, rfl⟩
      rw [← hz]
      refine ih (p + 1) (x + 1) (u2 I fi p z) (by rw [add1 (b := 49) (by omega) (by omega), hx]; omega) (by omega) (by omega) (fun c hc => by rw [u2_ne hc, hf c hc]) (fun q hq ne hlt => ?_)
      by_cases e : q = p
      · subst e
        rw [u2_at]
        have c7 : Int32.toInt 7 = ((7 : Nat) : Int) := by decide
        have d7 := idiv hx c7 (by omega)
        have r7 := irem hx c7 (by omega)
        have i1 : (x / 7 * 7 + (x - x / 7 * 7)).toNatClampNeg = q / 7 * 7 + q % 7 := idx2 d7 r7 c7 (by omega)
        have eq : q / 7 * 7 + q % 7 = q := by omega
        simp only [F_X6_firstOf, nm, v8, Option.getD_some, i1] at hz
        have hr1 : Rl I ru rf rt rc := by unfold Rl at *; rw [hf ru m0, hf rf m1, hf rt m2, hf rc m3]; exact hr
        have hw : ∀ q, q < 49 → 0 ≤ (I w q).toInt ∧ (I w q).toInt ≤ 268435456 := by rw [hf w m5]; exact hF.1
        obtain ⟨e1, t1, t2, t3⟩ := hF.eq (peR hr) (show q / 7 < 7 by omega) (show q % 7 < 7 by omega) ne (by show (I0 w _).toInt < _; rw [eq]; exact hlt)
        obtain ⟨e0, q1, q2, q3, q4, q5, q6⟩ := first_l (I := I) (J := J) (x1 := x / 7) (x2 := x - x / 7 * 7) (y2 := x / 7 * 7) (y3 := x / 7 * 7 + (x - x / 7 * 7)) (w := w) v0 v1 v2 v5 hr1 d7 r7 (by omega) (by omega) hw (by rw [eq, hf w m5]; exact hlt) 33 0 0 (by decide) (by have := hr1.1.1; omega) (by have := hr1.1.2; omega) ⟨e1, Nat.zero_le _, by unfold pe at *; rw [hf ru m0, hf rth m4]; exact t1, by unfold sr at *; rw [hf rf m1]; exact t2, by unfold sr cs at *; rw [hf rt m2, hf rc m3, hf w m5]; exact t3⟩
        have hfi : Fi I ru rf rt rc rth w (q / 7) (q % 7) z := ⟨e0, by rw [hz]; exact q1, q3, q4, q5, fun e z2 z3 z4 => q6 e (Nat.zero_le _) z2 z3 z4⟩
        exact hfi.of (hf ru m0).symm (hf rf m1).symm (hf rt m2).symm (hf rc m3).symm (hf rth m4).symm (hf w m5).symm
      · rw [u2_nk e]
        exact hI q (by omega) ne hlt
theorem meas {I : hI} (v0 : R ru 0 = some rf) (v1 : R ru 1 = some rt) (v2 : R ru 2 = some rc) (v5 : R ru 5 = some rth) (v8 : R ru 8 = some w) (v9 : R ru 9 = some fi) (n0 : ru ≠ w) (n1 : rf ≠ w) (n2 : rt ≠ w) (n3 : rc ≠ w) (n4 : rth ≠ w) (m0 : ru ≠ fi) (m1 : rf ≠ fi) (m2 : rt ≠ fi) (m3 : rc ≠ fi) (m4 : rth ≠ fi) (m5 : w ≠ fi) (hr : Rl I ru rf rt rc) :
    ∃ I1, F_X6_measure ru I J R = (I1, J, R) ∧ (∀ c, c ≠ w → c ≠ fi → I1 c = I c) ∧ Tb I1 ru rf rt rc rth w fi := by
  simp only [F_X6_measure, nm, nmW, v8, Option.getD_some, fill_38]
  obtain ⟨I1, a1, a2, a3⟩ := meas1 (ru := ru) (w := w) (I0 := I) (J := J) (R := R) n0 8 0 0 (fillF I w 49 268435456) (by decide) (by omega) (by omega) (fun c hc => fillF_ne hc) (fun q hq => by rw [fillF_at hq, if_neg (by omega)]; decide)
  obtain ⟨I2, b1, b2, b3⟩ := meas2 (J := J) (I0 := I) v0 v1 v2 v5 n0 n1 n2 n3 n4 hr 33 0 0 I1 (by decide) (by have := hr.1.1; omega) (by have := hr.1.2; omega) a2 ⟨fun q hq => by dsimp only; rw [a3 q hq]; split <;> omega, fun i hi => by dsimp only; rw [a3 _ (by omega), if_pos (by omega)], fun e he => by omega, fun i j hi hj ne => Or.inl (by dsimp only; rw [a3 _ (by omega), if_neg (by omega)])⟩
  obtain ⟨I3, c1, c2, c3⟩ := meas3 (J := J) (I0 := I) v8 (peR hr) 8 0 0 I2 (by decide) (by omega) (by omega) b2 (b3.Fw hr (nat_of hr.1.1))
  have hr3 : Rl I3 ru rf rt rc := by unfold Rl at *; rw [c2 ru n0, c2 rf n1, c2 rt n2, c2 rc n3]; exact hr
  have c4 : Fw 7 (fun e => 8 * cs I3 rc e + 1) (sr I3 rf) (sr I3 rt) (pe I3 ru rth) (fun q => (I3 w q).toInt) := by
    unfold sr cs pe at *
    rw [c2 ru n0, c2 rf n1, c2 rt n2, c2 rc n3, c2 rth n4]
    exact c3
  obtain ⟨I4, d1, d2, d3⟩ := meas4 (J := J) (I0 := I3) v0 v1 v2 v5 v8 v9 m0 m1 m2 m3 m4 m5 hr3 c4 50 0 0 I3 (by decide) (by omega) (by omega) (fun _ _ => rfl) (fun q hq => by omega)
  refine ⟨I4, ?_, fun c h1 h2 => by rw [d2 c h2, c2 c h1], ?_⟩
  · rw [← d1, ← c1, ← b1, ← a1]
    rfl
  · have t : Tb (fun c => if c = fi then I4 fi else I3 c) ru rf rt rc rth w fi := by
      refine ⟨?_, fun i j hi hj ne hlt => ?_⟩
      · unfold sr cs pe at *
        simp only [if_neg m0, if_neg m1, if_neg m2, if_neg m3, if_neg m4, if_neg m5]
        exact c4
      · simp only [if_neg m5, if_pos] at hlt ⊢
        have := d3 (i * 7 + j) (by omega) (by omega) hlt
        rw [show (i * 7 + j) / 7 = i by omega, show (i * 7 + j) % 7 = j by omega] at this
        exact this.of (if_neg m0) (if_neg m1) (if_neg m2) (if_neg m3) (if_neg m4) (if_neg m5)
    exact t.of (by rw [d2 ru m0]; simp only [if_neg m0]) (by rw [d2 rf m1]; simp only [if_neg m1]) (by rw [d2 rt m2]; simp only [if_neg m2]) (by rw [d2 rc m3]; simp only [if_neg m3]) (by rw [d2 rth m4]; simp only [if_neg m4]) (by rw [d2 w m5]; simp only [if_neg m5]) (by simp only [if_pos])
end MEAS2
theorem Tb.D {I : hI} {ru rf rt rc rth w fi j : Nat} (h : Tb I ru rf rt rc rth w fi) (hr : Rl I ru rf rt rc) (hj : j < 7) : Dok 7 268435456 8 (sr I rf) (sr I rt) (cs I rc) (pe I ru rth) (fun v => (I w (v * 7 + j)).toInt) j := by
  refine ⟨h.1.2.1 j hj, fun v hv => h.1.1 _ (by omega), fun e he => ?_, fun v hv ne hlt => ?_⟩
  · obtain ⟨s1, s2⟩ := peR hr e he
    have t1 := h.1.2.2.1 (sr I rf e) j (sr I rt e) s1 hj s2
    have t2 := h.1.2.2.2.1 e he
    dsimp only at t1 t2
    show (I w _).toInt ≤ 8 * cs I rc e + 1 + (I w _).toInt
    omega
  · exact h.1.2.2.2.2 v j hv hj ne hlt
theorem Tb.F {I : hI} {ru rf rt rc rth w fi j : Nat} (h : Tb I ru rf rt rc rth w fi) (hj : j < 7) : Fok 7 268435456 8 (sr I rf) (sr I rt) (cs I rc) (pe I ru rth) (fun v => (I w (v * 7 + j)).toInt) j (fun v => (I fi (v * 7 + j)).toNatClampNeg) := by
  intro v hv ne hlt
  obtain ⟨e0, q1, q2, q3, q4, q5⟩ := h.2 v j hv hj ne hlt
  have e : (I fi (v * 7 + j)).toNatClampNeg = e0 := clamp_toInt q1
  simp only [e]
  exact ⟨⟨q2, q3, q4⟩, q5⟩
theorem EokR {I : hI} {ru rf rt rc rth : Nat} (hr : Rl I ru rf rt rc) : Eok 7 32 (sr I rf) (sr I rt) (cs I rc) (pe I ru rth) := fun e he => by
  obtain ⟨s1, s2⟩ := peR hr e he
  have hlt : e < 32 := by have := hr.1.2; have := he.1; omega
  exact ⟨s1, s2, (hr.2 e hlt).2.2.1, hlt⟩
