/-! weights of all pairs of faces, in the class and in the model -/
def encW (c : Int32) (q : Nat) : Int32 := if q / 10 = q % 10 then 268435456 else if c = -6 then 268435456 else 16 * c + 1
def stv (c : Int32) : Int := if c = -6 then 1000000 else c.toInt
def CcR (cc : Nat → Int32) : Prop := ∀ q, q < 100 → cc q = -6 ∨ (0 ≤ (cc q).toInt ∧ (cc q).toInt ≤ 9132)
def FrW (fi t p ww : Nat) (I Ia : hI) : Prop := (∀ z, z ≠ fi → z ≠ t → z ≠ p → z ≠ ww → Ia z = I z) ∧ ∀ k, k ≠ 4 → k ≠ 5 → Ia fi k = I fi k
section WGH
variable {fi t p wy ww sh : Nat} {I : hI} {J : hJ} {R : hR} {cc : Nat → Int32}
theorem weigh_l (v0 : R wy 0 = some fi) (v1 : R wy 1 = some sh) (v2 : R wy 2 = some ww) (n1 : ww ≠ fi) (n2 : ww ≠ t) (n3 : ww ≠ p) (hcc : CcR cc) (hold : ∀ q, q < 100 → I ww q = -1 ∨ I ww q = encW (cc q) q)
    (hcost : ∀ q, q < 100 → ∀ Ia, FrW fi t p ww I Ia → ∃ Ic, F_X3_costOfAll fi ((R sh (10 + q % 10)).getD 0) ((R sh (10 + q / 10)).getD 0) Ia J R = (cc q, (Ic, J, R)) ∧ (∀ z, z ≠ fi → z ≠ t → z ≠ p → Ic z = Ia z) ∧ ∀ k, k ≠ 4 → k ≠ 5 → Ic fi k = Ia fi k) :
    ∀ (f r : Nat) (x : Int32) (Ia : hI), x.toInt = r → r ≤ 100 → 100 < f + r → FrW fi t p ww I Ia → (∀ q, q < r → Ia ww q = encW (cc q) q) → (∀ q, r ≤ q → Ia ww q = I ww q) →
      ∃ I1, F_X9_weigh_2 wy f Ia J R x = (I1, J, R) ∧ FrW fi t p ww I I1 ∧ ∀ q, q < 100 → I1 ww q = encW (cc q) q := by
  intro f
  induction f with
  | zero => intro r x Ia _ q1 q2; omega
  | succ f ih =>
    intro r x Ia hx hr hf hF hd hn
    rw [F_X9_weigh_2_s]
    simp only [B_X9_weigh_2, F_X9_weigh_69, F_X9_weigh_95, F_X9_weigh_96, nm, nmU, v0, v1, v2, Option.getD_some, clamp_toInt hx]
    by_cases e : r = 100
    · rw [if_pos (by rw [ile, hx, cI100]; omega)]
      subst e
      exact ⟨Ia, rfl, hF, hd⟩
    · rw [if_neg (by rw [ile, hx, cI100]; omega)]
      have hx1 : (x + 1).toInt = ((r + 1 : Nat) : Int) := by rw [add1 (b := 100) (by omega) (by omega), hx]; omega
      have c10 : Int32.toInt 10 = ((10 : Nat) : Int) := by decide
      have hdv := idiv hx c10 (by omega)
      have hrm := irem hx c10 (by omega)
      have i1 : (10 + x / 10).toNatClampNeg = 10 + r / 10 := clamp_toInt (by rw [iadd c10 hdv (by omega) (by omega)]; omega)
      have i2 : (10 + (x - x / 10 * 10)).toNatClampNeg = 10 + r % 10 := clamp_toInt (by rw [iadd c10 hrm (by omega) (by omega)]; omega)
      have esf : (x / 10 = x - x / 10 * 10) = (r / 10 = r % 10) := by
        rw [ieq, hdv, hrm]
        exact propext ⟨fun h => by omega, fun h => by omega⟩
      have upd : ∀ (Ib : hI) (z : Int32), (∀ z, z ≠ fi → z ≠ t → z ≠ p → Ib z = Ia z) → (∀ k, k ≠ 4 → k ≠ 5 → Ib fi k = Ia fi k) → z = encW (cc r) r → ∃ I1, F_X9_weigh_2 wy f (u2 Ib ww r z) J R (x + 1) = (I1, J, R) ∧ FrW fi t p ww I I1 ∧ ∀ q, q < 100 → I1 ww q = encW (cc q) q := fun Ib z h1 h2 hz => by
        have hw : Ib ww = Ia ww := h1 ww n1 n2 n3
        refine ih (r + 1) (x + 1) (u2 Ib ww r z) hx1 (by omega) (by omega) ⟨fun c z1 z2 z3 z4 => by rw [u2_ne z4, h1 c z1 z2 z3]; exact hF.1 c z1 z2 z3 z4, fun k k1 k2 => by rw [u2_ne (fun e => n1 e.symm), h2 k k1 k2]; exact hF.2 k k1 k2⟩ (fun q hq => ?_) (fun q hq => ?_)
        · by_cases e : q = r
          · rw [e, u2_at, hz]
          · rw [u2_nk e, hw]; exact hd q (by omega)
        · rw [u2_nk (by omega), hw]; exact hn q (by omega)
      by_cases hu : Ia ww r = -1
      · simp only [if_pos hu, esf, i1, i2]
        by_cases hs : r / 10 = r % 10
        · simp only [if_pos hs]
          exact upd Ia _ (fun _ _ _ _ => rfl) (fun _ _ _ => rfl) (by unfold encW; rw [if_pos hs])
        · simp only [if_neg hs]
          obtain ⟨Ic, c1, c2, c3⟩ := hcost r (by omega) Ia hF
          rw [c1]
          dsimp only
          by_cases hc : cc r = -6
          · rw [if_pos hc]
            exact upd Ic _ c2 c3 (by unfold encW; rw [if_neg hs, if_pos hc])
          · rw [if_neg hc]
            exact upd Ic _ c2 c3 (by unfold encW; rw [if_neg hs, if_neg hc])
      · rw [if_neg hu]
        refine ih (r + 1) (x + 1) Ia hx1 (by omega) (by omega) hF (fun q hq => ?_) (fun q hq => hn q (by omega))
        by_cases e : q = r
        · rw [e, hn r (Nat.le_refl _)]
          rw [hn r (Nat.le_refl _)] at hu
          exact (hold r (by omega)).resolve_left hu
        · exact hd q (by omega)
end WGH
theorem encG {cc : Nat → Int32} (hcc : CcR cc) {q : Nat} (hq : q < 100) : (encW (cc q) q).toInt = if q / 10 = q % 10 then 268435456 else if cc q = -6 then 268435456 else 16 * (cc q).toInt + 1 := by
  unfold encW
  have cF : Int32.toInt 268435456 = 268435456 := by decide
  have c16 : Int32.toInt 16 = 16 := by decide
  by_cases h1 : q / 10 = q % 10
  · rw [if_pos h1, if_pos h1, cF]
  · rw [if_neg h1, if_neg h1]
    by_cases h2 : cc q = -6
    · rw [if_pos h2, if_pos h2, cF]
    · rw [if_neg h2, if_neg h2]
      have h3 := (hcc q hq).resolve_left h2
      exact iadd (imul c16 rfl (by omega) (by omega)) cI1 (by omega) (by omega)
section STP
variable {mo pl bp fp st : Nat} {K : hI} {J : hJ} {R : hR} {cc : Nat → Int32} {x1 x2 : Int32}
def FrS (mo pl bp fp st : Nat) (K Ka : hI) : Prop := (∀ z, z ≠ mo → z ≠ pl → z ≠ bp → z ≠ fp → z ≠ st → Ka z = K z) ∧ ∀ k, k ≠ 40 → k ≠ 41 → k ≠ 42 → Ka mo k = K mo k
theorem step_b (v46 : R mo 46 = some st) (n0 : st ≠ mo) (n1 : st ≠ pl) (n2 : st ≠ bp) (n3 : st ≠ fp) {a : Nat} {xa : Int32} (ha : xa.toInt = a) (ba : a < 10) {k2 : hI → hJ → hR → Int32 → (Int32 × hU)}
    (hfit : ∀ (b : Nat) (xb : Int32), xb.toInt = b → b < 10 → ∀ Ka, FrS mo pl bp fp st K Ka → ∃ rb Im, F_X11_fitsAt mo xb (10 + xa) Ka J R = (rb, (Im, J, R)) ∧ FrM mo pl bp fp Ka Im ∧ ((cc (10 * a + b) = rb ∧ 0 ≤ rb.toInt ∧ rb.toInt ≤ 9132) ∨ (cc (10 * a + b) = -6 ∧ 1000000 ≤ rb.toInt))) :
    ∀ (f b : Nat) (x : Int32) (Ka : hI), x.toInt = b → b ≤ 10 → 10 < f + b → FrS mo pl bp fp st K Ka → (∀ e, e < 10 * a + b → (Ka st e).toInt = stv (cc e)) →
      ∃ I1, F_X11_findWay_11 mo x1 x2 xa k2 f Ka J R x = k2 I1 J R (xa + 1) ∧ FrS mo pl bp fp st K I1 ∧ ∀ e, e < 10 * a + 10 → (I1 st e).toInt = stv (cc e) := by
  intro f
  induction f with
  | zero => intro b x Ka _ q1 q2; omega
  | succ f ih =>
    intro b x Ka hx hb hf hF hd
    rw [F_X11_findWay_11_s]
    simp only [B_X11_findWay_11, F_X11_findWay_55, nm, nmU, v46, Option.getD_some]
    by_cases e : b = 10
    · rw [if_pos (by rw [ile, hx, cI10]; omega)]
      subst e
      exact ⟨Ka, rfl, hF, hd⟩
    · rw [if_neg (by rw [ile, hx, cI10]; omega)]
      have hx1 : (x + 1).toInt = ((b + 1 : Nat) : Int) := by rw [add1 (b := 10) (by omega) (by omega), hx]; omega
      obtain ⟨rb, Im, c1, c2, c3⟩ := hfit b x hx (by omega) Ka hF
      rw [c1]
      dsimp only
      have i1 : (10 * xa + x).toNatClampNeg = 10 * a + b := clamp_toInt (by rw [iadd (imul (x := 10) cI10 ha (by omega) (by omega)) hx (by omega) (by omega)]; omega)
      rw [i1]
      have upd : ∀ z : Int32, z.toInt = stv (cc (10 * a + b)) → ∃ I1, F_X11_findWay_11 mo x1 x2 xa k2 f (u2 Im st (10 * a + b) z) J R (x + 1) = k2 I1 J R (xa + 1) ∧ FrS mo pl bp fp st K I1 ∧ ∀ e, e < 10 * a + 10 → (I1 st e).toInt = stv (cc e) := fun z hz => by
        refine ih (b + 1) (x + 1) (u2 Im st (10 * a + b) z) hx1 (by omega) (by omega) ⟨fun c z1 z2 z3 z4 z5 => by rw [u2_ne z5, c2.1 c z1 z2 z3 z4]; exact hF.1 c z1 z2 z3 z4 z5, fun k q1 q2 q3 => by rw [u2_ne (fun e => n0 e.symm), c2.2 k q1 q2 q3]; exact hF.2 k q1 q2 q3⟩ (fun e he => ?_)
        by_cases q : e = 10 * a + b
        · rw [q, u2_at, hz]
        · rw [u2_nk q, c2.1 st n0 n1 n2 n3]; exact hd e (by omega)
      have cM : Int32.toInt 1000000 = 1000000 := by decide
      have c6 : Int32.toInt (-6) = -6 := by decide
      rcases c3 with ⟨e1, e2, e3⟩ | ⟨e1, e2⟩
      · rw [if_neg (show ¬ (1000000 : Int32) ≤ rb by rw [ile, cM]; omega)]
        refine upd rb ?_
        unfold stv
        rw [if_neg (show ¬ cc (10 * a + b) = -6 by rw [ieq, e1, c6]; omega), e1]
      · rw [if_pos (show (1000000 : Int32) ≤ rb by rw [ile, cM]; exact e2)]
        refine upd 1000000 ?_
        unfold stv
        rw [if_pos e1, cM]
theorem step_a (v46 : R mo 46 = some st) (n0 : st ≠ mo) (n1 : st ≠ pl) (n2 : st ≠ bp) (n3 : st ≠ fp)
    (hfit : ∀ (a b : Nat) (xa xb : Int32), xa.toInt = a → xb.toInt = b → a < 10 → b < 10 → ∀ Ka, FrS mo pl bp fp st K Ka → ∃ rb Im, F_X11_fitsAt mo xb (10 + xa) Ka J R = (rb, (Im, J, R)) ∧ FrM mo pl bp fp Ka Im ∧ ((cc (10 * a + b) = rb ∧ 0 ≤ rb.toInt ∧ rb.toInt ≤ 9132) ∨ (cc (10 * a + b) = -6 ∧ 1000000 ≤ rb.toInt))) :
    ∀ (f a : Nat) (x : Int32) (Ka : hI), x.toInt = a → a ≤ 10 → 10 < f + a → FrS mo pl bp fp st K Ka → (∀ e, e < 10 * a → (Ka st e).toInt = stv (cc e)) →
      ∃ I1, F_X11_findWay_2 mo x1 x2 f Ka J R x = F_X11_findWay_70 mo x1 x2 101 I1 J R 0 ∧ FrS mo pl bp fp st K I1 ∧ ∀ e, e < 100 → (I1 st e).toInt = stv (cc e) := by
  intro f
  induction f with
  | zero => intro a x Ka _ q1 q2; omega
  | succ f ih =>
    intro a x Ka hx ha hf hF hd
    rw [F_X11_findWay_2_s]
    simp only [B_X11_findWay_2]
    by_cases e : a = 10
    · rw [if_pos (by rw [ile, hx, cI10]; omega), show ((100 - Int32.toInt 0).toNat + 1) = 101 by decide]
      subst e
      exact ⟨Ka, rfl, hF, hd⟩
    · rw [if_neg (by rw [ile, hx, cI10]; omega), show ((10 - Int32.toInt 0).toNat + 1) = 11 by decide]
      obtain ⟨I1, c1, c2, c3⟩ := step_b (x1 := x1) (x2 := x2) (k2 := F_X11_findWay_2 mo x1 x2 f) v46 n0 n1 n2 n3 hx (show a < 10 by omega) (fun b xb hb bb => hfit a b x xb hx hb (by omega) bb) 11 0 0 Ka (by decide) (by omega) (by omega) hF (by rw [Nat.add_zero]; exact hd)
      rw [c1]
      exact ih (a + 1) (x + 1) I1 (by rw [add1 (b := 10) (by omega) (by omega), hx]; omega) (by omega) (by omega) c2 (fun e he => c3 e (by omega))
end STP
/-- what both say of the way from a to b -/
theorem wayEq {Ic Im : hI} {ww lf sc sF st a b : Nat} {cc : Nat → Int32} {K0 : hI} (hcc : CcR cc) (hw : ∀ q, q < 100 → Ic ww q = encW (cc q) q) (hs : ∀ e, e < 100 → (K0 st e).toInt = stv (cc e)) (ha : a < 10) (hb : b < 10) (hB : BI (gW Ic ww) b (dW Ic lf)) (hF : FP (gW Ic ww) (dW Ic lf)) (hM : Mok 10 9 100 1000000 wsrc wdst (wcs K0 st) (wpr K0 st) a (Lw Im sc) (RwW Im sF))
    {n0 : Nat} (hn : n0 < 10) (h1 : ∀ k, k < 10 → Lw Im sc n0 b ≤ Lw Im sc k b) (h2 : ∀ k, k < n0 → Lw Im sc n0 b < Lw Im sc k b) :
    (dW Ic lf a < 268435456 ∧ Lw Im sc n0 b < 1000000 ∧ 0 ≤ Lw Im sc n0 b ∧ dW Ic lf a = 16 * Lw Im sc n0 b + n0 ∧ RwW Im sF n0 b = gry wdst (fun v => 10 * v + nx (gW Ic ww) (dW Ic lf) v 0 10) b 10 a) ∨ (dW Ic lf a = 268435456 ∧ Lw Im sc n0 b = 1000000) := by
  have hst : ∀ e, e < 100 → (0 ≤ wcs K0 st e ∧ wcs K0 st e ≤ 9132) ∨ wcs K0 st e = 1000000 := fun e he => by
    have := hs e he
    unfold wcs
    rw [this]
    unfold stv
    rcases hcc e he with h | h
    · rw [if_pos h]; exact Or.inr rfl
    · by_cases q : cc e = -6
      · rw [if_pos q]; exact Or.inr rfl
      · rw [if_neg q]; exact Or.inl h
  have hE := wEok hst
  have gq : ∀ v u, v < 10 → u < 10 → gW Ic ww v u = if v = u then 268435456 else if wcs K0 st (10 * v + u) < 1000000 then 16 * wcs K0 st (10 * v + u) + 1 else 268435456 := fun v u hv hu => by
    have e1 := encG hcc (show v * 10 + u < 100 by omega)
    have e2 : gW Ic ww v u = (encW (cc (v * 10 + u)) (v * 10 + u)).toInt := by unfold gW; rw [hw _ (by omega)]
    have e3 : wcs K0 st (10 * v + u) = stv (cc (v * 10 + u)) := by rw [← hs (v * 10 + u) (by omega), show v * 10 + u = 10 * v + u by omega]; rfl
    rw [e2, e1, e3, show (v * 10 + u) / 10 = v by omega, show (v * 10 + u) % 10 = u by omega]
    by_cases q : v = u
    · rw [if_pos q, if_pos q]
    · rw [if_neg q, if_neg q]
      unfold stv
      by_cases z : cc (v * 10 + u) = -6
      · rw [if_pos z, if_pos z, if_neg (by omega)]
      · rw [if_neg z, if_neg z]
        have := (hcc (v * 10 + u) (by omega)).resolve_left z
        rw [if_pos (by omega)]
  have fin : ∀ v u, v < 10 → u < 10 → gW Ic ww v u < 268435456 → v ≠ u ∧ wpr K0 st (10 * v + u) ∧ gW Ic ww v u = 16 * wcs K0 st (10 * v + u) + 1 := fun v u hv hu h => by
    rw [gq v u hv hu] at h ⊢
    by_cases q : v = u
    · rw [if_pos q] at h; omega
    · rw [if_neg q] at h ⊢
      by_cases z : wcs K0 st (10 * v + u) < 1000000
      · rw [if_pos z]
        exact ⟨q, ⟨by omega, z⟩, rfl⟩
      · rw [if_neg z] at h; omega
  have hD : Dok 10 268435456 16 wsrc wdst (wcs K0 st) (wpr K0 st) (dW Ic lf) b := by
    refine ⟨hB.1, hB.2.1, fun e he => ?_, fun v hv ne hd => ?_⟩
    · have h9 := he.1
      have q1 := hE e he
      have h8 := hF (wsrc e) (wdst e) q1.1 q1.2.1
      have ee : 10 * wsrc e + wdst e = e := by unfold wsrc wdst; omega
      rw [gq _ _ q1.1 q1.2.1, ee] at h8
      by_cases q : wsrc e = wdst e
      · rw [q]
        have := q1.2.2.1
        omega
      · rw [if_neg q, if_pos (show wcs K0 st e < 1000000 from he.2)] at h8
        exact h8
    · obtain ⟨u, hu, h9⟩ := hB.2.2 v hv ne hd
      have h8 := hB.2.1 u hu
      obtain ⟨q1, q2, q3⟩ := fin v u hv hu (by omega)
      refine ⟨10 * v + u, q2, by unfold wsrc; omega, ?_⟩
      rw [show wdst (10 * v + u) = u by unfold wdst; omega]
      omega
  have hFo : Fok 10 268435456 16 wsrc wdst (wcs K0 st) (wpr K0 st) (dW Ic lf) b (fun v => 10 * v + nx (gW Ic ww) (dW Ic lf) v 0 10) := fun v hv ne hd => by
    obtain ⟨t1, t2, t3⟩ := tight hB hF hv ne hd
    obtain ⟨u, hu⟩ : ∃ u, u = nx (gW Ic ww) (dW Ic lf) v 0 10 := ⟨_, rfl⟩
    dsimp only
    rw [← hu] at t1 t2 t3 ⊢
    have h8 := hB.2.1 u t2
    obtain ⟨q1, q2, q3⟩ := fin v u hv t2 (by omega)
    refine ⟨⟨q2, by unfold wsrc; omega, ?_⟩, fun e he hse h9 => ?_⟩
    · rw [show wdst (10 * v + u) = u by unfold wdst; omega]
      omega
    · have q4 := hE e he
      have ee : 10 * wsrc e + wdst e = e := by unfold wsrc wdst; omega
      have hne : v ≠ wdst e := fun z => by rw [← z] at h9; have := q4.2.2.1; omega
      have := t3 (wdst e) (by
        rw [gq v (wdst e) hv q4.2.1, if_neg hne, ← hse, ee, if_pos (show wcs K0 st e < 1000000 from he.2), hse]
        exact h9)
      omega
  have hFM : ∀ l, Wk wsrc wdst (wpr K0 st) a l b → l.length < 10 → wc (wcs K0 st) l < 1000000 := fun l hw' hl => by
    have : ∀ (l : List Nat) (u v : Nat), Wk wsrc wdst (wpr K0 st) u l v → wc (wcs K0 st) l ≤ 9132 * (l.length : Int) := by
      intro l
      induction l with
      | nil => intro u v _; simp [wc]
      | cons y l ih =>
        intro u v hw2
        obtain ⟨g1, g2, g3⟩ := hw2
        have := ih _ _ g3
        have c50 : wcs K0 st y ≤ 9132 := by
          have := hst y g1.1
          have := g1.2
          have e : (K0 st y).toInt = wcs K0 st y := rfl
          omega
        simp only [wc, List.length_cons]
        omega
    have := this l _ _ hw'
    omega
  by_cases hd : dW Ic lf a < 268435456
  · left
    obtain ⟨k0, d1, d2, d3, d4, d5, d6⟩ := best_eq hE (by decide) hD hFo hM ha hb hd hFM
    have e : n0 = k0 := by
      rcases Nat.lt_trichotomy n0 k0 with h | h | h
      · have := d6 n0 h
        have := h1 k0 d1
        omega
      · exact h
      · have := h2 k0 h
        have := d5 n0 hn
        omega
    subst e
    have h0 : 0 ≤ Lw Im sc n0 b := by
      obtain ⟨⟨-, q⟩, -⟩ := hM n0 (by omega) b hb
      obtain ⟨w1, w2, w3⟩ := q d2
      rw [← w3]
      exact wc_nn hE _ _ _ w1
    exact ⟨hd, d2, h0, d3, d4⟩
  · right
    have h9 := none_eq hD hM hb (by decide) (by decide) hd n0 hn
    have := (hB.2.1 a ha).2
    exact ⟨by omega, h9⟩
