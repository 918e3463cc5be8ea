theorem fill_46_l {b : Nat} {v : Int32} {I : hI} {J : hJ} {R : hR} : ∀ (f k : Nat) (x : Int32), x.toInt = k → k ≤ 10 → 10 < f + k → F_J7_fill_46_5 b v f (fillF I b k v) J R x = (fillF I b 10 v, J, R) := by
  intro f
  induction f with
  | zero => intro k x _ h1 h2; omega
  | succ f ih =>
    intro k x hx h1 h2
    rw [F_J7_fill_46_5_s]
    simp only [B_J7_fill_46_5, nm]
    have cN : Int32.toInt 10 = 10 := by decide
    by_cases h : (10 : Int32) ≤ x
    · have h3 := Rg_le h
      have e : k = 10 := by omega
      rw [if_pos h, e]
    · have h3 := Rg_nle h
      rw [if_neg h, clamp_toInt hx, fillF_s]
      exact ih (k + 1) (x + 1) (by rw [add1 (b := 10) (by omega) (by omega), hx]; omega) (by omega) (by omega)
theorem fill_46 {b : Nat} {v : Int32} {I : hI} {J : hJ} {R : hR} : F_J7_fill_46 b v I J R = (fillF I b 10 v, J, R) := by
  have := fill_46_l (b := b) (v := v) (I := I) (J := J) (R := R) (10 + 1) 0 0 (by decide) (by omega) (by omega)
  rw [fillF_0] at this
  exact this
/-! the class's ways: the least weights by rounds, and the faces along them -/
def rc (g : Nat → Nat → Int) (b : Nat) : Nat → Nat → Int → Prop
  | 0, v, c => v = b ∧ c = 0
  | k + 1, v, c => ∃ u, u < 10 ∧ rc g b k u (c - g v u)
def BI (g : Nat → Nat → Int) (b : Nat) (d : Nat → Int) : Prop :=
  d b = 0 ∧ (∀ v, v < 10 → 0 ≤ d v ∧ d v ≤ 268435456) ∧ ∀ v, v < 10 → v ≠ b → d v < 268435456 → ∃ u, u < 10 ∧ g v u + d u ≤ d v
def Wg (g : Nat → Nat → Int) : Prop := ∀ v u, v < 10 → u < 10 → 1 ≤ g v u ∧ g v u ≤ 268435456
def PK (g : Nat → Nat → Int) (b k : Nat) (d : Nat → Int) : Prop := ∀ j, j ≤ k → ∀ v, v < 10 → ∀ c, rc g b j v c → d v ≤ c
def FP (g : Nat → Nat → Int) (d : Nat → Int) : Prop := ∀ v u, v < 10 → u < 10 → d v ≤ g v u + d u
def nx (g : Nat → Nat → Int) (d : Nat → Int) (v : Nat) : Nat → Nat → Nat
  | p, 0 => p
  | p, n + 1 => if g v p + d p = d v then p else nx g d v (p + 1) n
section BF
variable {g : Nat → Nat → Int} {b : Nat} {d : Nat → Int}
theorem rc_att (hg : Wg g) (h : BI g b d) : ∀ (n v : Nat), v < 10 → d v < 268435456 → rk 10 d (d v) ≤ n → ∃ j c, j ≤ rk 10 d (d v) ∧ rc g b j v c ∧ c ≤ d v := by
  intro n
  induction n with
  | zero =>
    intro v hv hd hr
    by_cases e : v = b
    · exact ⟨0, 0, Nat.zero_le _, ⟨e, rfl⟩, (h.2.1 v hv).1⟩
    · obtain ⟨u, hu, h1⟩ := h.2.2 v hv e hd
      have h2 := (hg v u hv hu).1
      have h3 := rk_lt (d := d) (x := d u) (y := d v) (u := u) (Int.le_refl _) (by omega) 10 hu
      omega
  | succ n ih =>
    intro v hv hd hr
    by_cases e : v = b
    · exact ⟨0, 0, Nat.zero_le _, ⟨e, rfl⟩, (h.2.1 v hv).1⟩
    · obtain ⟨u, hu, h1⟩ := h.2.2 v hv e hd
      have h2 := (hg v u hv hu).1
      have h3 := rk_lt (d := d) (x := d u) (y := d v) (u := u) (Int.le_refl _) (by omega) 10 hu
      obtain ⟨j, c, j1, j2, j3⟩ := ih u hu (by omega) (by omega)
      refine ⟨j + 1, c + g v u, by omega, ⟨u, hu, ?_⟩, by omega⟩
      rw [show c + g v u - g v u = c by omega]
      exact j2
theorem PK.fp (hg : Wg g) (h : BI g b d) (hp : PK g b 10 d) : FP g d := fun v u hv hu => by
  by_cases hd : d u < 268435456
  · obtain ⟨j, c, j1, j2, j3⟩ := rc_att hg h 10 u hu hd (rk_le 10)
    have h1 : rk 10 d (d u) < 10 := rk_lt_n (u := u) (Int.le_refl _) 10 hu
    have h2 := hp (j + 1) (by omega) v hv (c + g v u) ⟨u, hu, by rw [show c + g v u - g v u = c by omega]; exact j2⟩
    omega
  · have h1 := (h.2.1 v hv).2
    have h2 := (hg v u hv hu).1
    omega
theorem PK.step {k : Nat} {d1 : Nat → Int} (hp : PK g b k d) (h2 : ∀ v u, v < 10 → u < 10 → d1 v ≤ g v u + d u) (h3 : d1 b = 0) : PK g b (k + 1) d1 := fun j hj v hv c hc => by
  cases j with
  | zero =>
    obtain ⟨e1, e2⟩ : v = b ∧ c = 0 := hc
    rw [e1, e2]
    omega
  | succ j =>
    obtain ⟨u, hu, h4⟩ : ∃ u, u < 10 ∧ rc g b j u (c - g v u) := hc
    have h5 := hp j (by omega) u hu _ h4
    have h6 := h2 v u hv hu
    omega
theorem nx_spec {v : Nat} : ∀ n p, (∃ u, p ≤ u ∧ u < p + n ∧ g v u + d u = d v) → g v (nx g d v p n) + d (nx g d v p n) = d v ∧ (p ≤ nx g d v p n ∧ nx g d v p n < p + n) ∧ ∀ u, p ≤ u → g v u + d u = d v → nx g d v p n ≤ u := by
  intro n
  induction n with
  | zero => intro p ⟨u, h1, h2, _⟩; omega
  | succ n ih =>
    intro p ⟨u, h1, h2, h3⟩
    simp only [nx]
    by_cases e : g v p + d p = d v
    · rw [if_pos e]
      exact ⟨e, ⟨Nat.le_refl _, by omega⟩, fun u h _ => h⟩
    · rw [if_neg e]
      have hu : u ≠ p := fun q => e (by rw [← q]; exact h3)
      obtain ⟨i1, i2, i3⟩ := ih (p + 1) ⟨u, by omega, by omega, h3⟩
      refine ⟨i1, ⟨by omega, by omega⟩, fun u h q => ?_⟩
      have hu : u ≠ p := fun z => e (by rw [← z]; exact q)
      exact i3 u (by omega) q
theorem tight (h : BI g b d) (hf : FP g d) {v : Nat} (hv : v < 10) (e : v ≠ b) (hd : d v < 268435456) : g v (nx g d v 0 10) + d (nx g d v 0 10) = d v ∧ nx g d v 0 10 < 10 ∧ ∀ u, g v u + d u = d v → nx g d v 0 10 ≤ u := by
  obtain ⟨u, hu, h1⟩ := h.2.2 v hv e hd
  have h2 := hf v u hv hu
  obtain ⟨i1, i2, i3⟩ := nx_spec 10 0 ⟨u, Nat.zero_le _, by omega, (by omega : g v u + d u = d v)⟩
  exact ⟨i1, by omega, fun u q => i3 u (Nat.zero_le _) q⟩
end BF
def gW (I : hI) (ww v u : Nat) : Int := (I ww (v * 10 + u)).toInt
def dW (I : hI) (lf v : Nat) : Int := (I lf v).toInt
theorem u2_u2 {I : hI} {b k : Nat} {x y : Int32} : u2 (u2 I b k x) b k y = u2 I b k y := by
  funext c
  by_cases h : c = b
  · subst h
    rw [u2_up, u2_up, u2_up, up_up]
  · rw [u2_ne h, u2_ne h, u2_ne h]
theorem u2_id {I : hI} {b k : Nat} : u2 I b k (I b k) = I := by
  funext c
  by_cases h : c = b
  · subst h
    rw [u2_up]
    funext j
    by_cases e : j = k
    · rw [e, up_at]
    · rw [up_ne e]
  · rw [u2_ne h]
section WAYC
variable {wy ww lf : Nat} {J : hJ} {R : hR}
theorem wshort_l (v2 : R wy 2 = some ww) (ne : ww ≠ lf) {xv y : Int32} {v : Nat} (hv : xv.toInt = v) (bv : v < 10) {I0 : hI} (hg : Wg (gW I0 ww)) (hd : ∀ u, u < 10 → 0 ≤ dW I0 lf u ∧ dW I0 lf u ≤ 268435456) (hy : y.toInt = dW I0 lf v) :
    ∀ (f p : Nat) (x c : Int32), x.toInt = p → p ≤ 10 → 10 < f + p → (0 ≤ c.toInt ∧ c.toInt ≤ dW I0 lf v) → (∀ u, u < p → c.toInt ≤ gW I0 ww v u + dW I0 lf u) → (c.toInt = dW I0 lf v ∨ ∃ u, u < 10 ∧ u ≠ v ∧ c.toInt = gW I0 ww v u + dW I0 lf u) →
      ∃ c', F_X9_shorten_9 wy xv y lf f (u2 I0 lf v c) J R x = (if c'.toInt < dW I0 lf v then 1 else 0, (u2 I0 lf v c', J, R)) ∧ (0 ≤ c'.toInt ∧ c'.toInt ≤ dW I0 lf v) ∧ (∀ u, u < 10 → c'.toInt ≤ gW I0 ww v u + dW I0 lf u) ∧ (c'.toInt = dW I0 lf v ∨ ∃ u, u < 10 ∧ u ≠ v ∧ c'.toInt = gW I0 ww v u + dW I0 lf u) := by
  intro f
  induction f with
  | zero => intro p x c _ q1 q2; omega
  | succ f ih =>
    intro p x c hx hp hf h1 h2 h3
    rw [F_X9_shorten_9_s]
    simp only [B_X9_shorten_9, F_X9_shorten_69, nm, v2, Option.getD_some, clamp_toInt hv, u2_at]
    by_cases e : p = 10
    · rw [if_pos (by rw [ile, hx, cI10]; omega)]
      subst e
      refine ⟨c, ?_, h1, h2, h3⟩
      by_cases q : y ≤ c
      · have := Rg_le q
        rw [if_pos q, if_neg (by omega)]
      · have := Rg_nle q
        rw [if_neg q, if_pos (by omega)]
    · rw [if_neg (by rw [ile, hx, cI10]; omega)]
      have i1 : (xv * 10 + x).toNatClampNeg = v * 10 + p := idx2 hv hx (show Int32.toInt 10 = ((10 : Nat) : Int) by decide) (by omega)
      rw [i1, clamp_toInt hx, u2_ne ne, u2_u2]
      obtain ⟨D, hD⟩ : ∃ D, D = u2 I0 lf v c lf p := ⟨_, rfl⟩
      rw [← hD]
      have hD1 : D.toInt = if p = v then c.toInt else dW I0 lf p := by
        rw [hD]
        by_cases q : p = v
        · rw [if_pos q, q, u2_at]
        · rw [if_neg q, u2_nk q]; rfl
      have hgp := hg v p bv (by omega)
      have hdp := hd p (by omega)
      have hdv := hd v bv
      have hDr : 0 ≤ D.toInt ∧ D.toInt ≤ 268435456 := by
        rw [hD1]
        split <;> omega
      have hs : (I0 ww (v * 10 + p) + D).toInt = gW I0 ww v p + D.toInt := iadd (show (I0 ww (v * 10 + p)).toInt = gW I0 ww v p from rfl) rfl (by omega) (by omega)
      have hm := minI (x := c) (y := I0 ww (v * 10 + p) + D)
      rw [hs] at hm
      obtain ⟨M, hM⟩ : ∃ M, M = F_J9_min_7cf53 c (I0 ww (v * 10 + p) + D) := ⟨_, rfl⟩
      rw [← hM] at hm ⊢
      have hx1 : (x + 1).toInt = ((p + 1 : Nat) : Int) := by rw [add1 (b := 10) (by omega) (by omega), hx]; omega
      refine ih (p + 1) (x + 1) M hx1 (by omega) (by omega) ⟨by omega, by omega⟩ (fun u hu => ?_) ?_
      · by_cases z : u = p
        · subst z
          rw [hD1] at hm
          by_cases q : u = v
          · rw [if_pos q] at hm
            rw [q]
            rw [q] at hm
            omega
          · rw [if_neg q] at hm
            omega
        · have := h2 u (by omega)
          omega
      · by_cases q : c.toInt ≤ gW I0 ww v p + D.toInt
        · have e1 : M.toInt = c.toInt := by omega
          rw [e1]
          exact h3
        · have e1 : M.toInt = gW I0 ww v p + D.toInt := by omega
          have hpv : p ≠ v := fun z => by
            rw [if_pos z] at hD1
            omega
          rw [if_neg hpv] at hD1
          exact Or.inr ⟨p, by omega, hpv, by rw [e1, hD1]⟩
theorem BI.upd {g : Nat → Nat → Int} {b : Nat} {d d1 : Nat → Int} {v : Nat} (hg : Wg g) (h : BI g b d) (hv : v < 10) (h1 : ∀ u, u ≠ v → d1 u = d u) (h2 : 0 ≤ d1 v ∧ d1 v ≤ d v) (h3 : d1 v = d v ∨ ∃ u, u < 10 ∧ u ≠ v ∧ d1 v = g v u + d u) : BI g b d1 := by
  have le : ∀ u, d1 u ≤ d u := fun u => by
    by_cases e : u = v
    · rw [e]; exact h2.2
    · rw [h1 u e]; exact Int.le_refl _
  refine ⟨?_, fun u hu => ?_, fun w hw ne hd => ?_⟩
  · by_cases e : b = v
    · have := h.1
      rw [e] at this ⊢
      omega
    · rw [h1 b e]; exact h.1
  · have := h.2.1 u hu
    by_cases e : u = v
    · subst e; exact ⟨h2.1, by omega⟩
    · rw [h1 u e]; exact this
  · by_cases e : w = v
    · subst e
      rcases h3 with h3 | ⟨u, hu, hne, h3⟩
      · obtain ⟨u, hu, h4⟩ := h.2.2 w hw ne (by omega)
        have := le u
        exact ⟨u, hu, by omega⟩
      · exact ⟨u, hu, by rw [h1 u hne, h3]; exact Int.le_refl _⟩
    · rw [h1 w e] at hd ⊢
      obtain ⟨u, hu, h4⟩ := h.2.2 w hw ne hd
      have := le u
      exact ⟨u, hu, by omega⟩
theorem round_l (v2 : R wy 2 = some ww) (v3 : R wy 3 = some lf) (ne : ww ≠ lf) {xto xch xr : Int32} {K : hI → hJ → hR → Int32 → Int32 → hU} {b : Nat} {I0 : hI} (hg : Wg (gW I0 ww)) :
    ∀ (f p : Nat) (x fl : Int32) (I : hI), x.toInt = p → p ≤ 10 → 10 < f + p → (∀ z, z ≠ lf → I z = I0 z) → BI (gW I0 ww) b (dW I lf) → (∀ v, v < 10 → dW I lf v ≤ dW I0 lf v) → (∀ v u, v < p → u < 10 → dW I lf v ≤ gW I0 ww v u + dW I0 lf u) → (fl = 0 → ∀ v, v < 10 → dW I lf v = dW I0 lf v) →
      ∃ I1 fl', F_X9_measure_35 wy xto lf xch xr K f I J R fl x = K I1 J R fl' (xr + 1) ∧ (∀ z, z ≠ lf → I1 z = I0 z) ∧ BI (gW I0 ww) b (dW I1 lf) ∧ (∀ v u, v < 10 → u < 10 → dW I1 lf v ≤ gW I0 ww v u + dW I0 lf u) ∧ (fl' = 0 → ∀ v, v < 10 → dW I1 lf v = dW I0 lf v) := by
  intro f
  induction f with
  | zero => intro p x fl I _ q1 q2; omega
  | succ f ih =>
    intro p x fl I hx hp hf hc hB hle hst hfl
    rw [F_X9_measure_35_s]
    simp only [B_X9_measure_35, F_X9_measure_55, F_X9_measure_60, F_X9_shorten, nm, nmU, v3, Option.getD_some]
    by_cases e : p = 10
    · rw [if_pos (by rw [ile, hx, cI10]; omega)]
      subst e
      exact ⟨I, fl, rfl, hc, hB, hst, hfl⟩
    · rw [if_neg (by rw [ile, hx, cI10]; omega)]
      have hp10 : p < 10 := by omega
      have eg : gW I ww = gW I0 ww := by unfold gW; rw [hc ww ne]
      obtain ⟨c, c1, c2, c3, c4⟩ := wshort_l (J := J) (y := I lf p) v2 ne hx hp10 (I0 := I) (by rw [eg]; exact hg) hB.2.1 rfl 11 0 0 (I lf p) (by decide) (by omega) (by omega) ⟨(hB.2.1 p hp10).1, Int.le_refl _⟩ (fun u hu => by omega) (Or.inl rfl)
      rw [u2_id] at c1
      rw [eg] at c3 c4
      rw [clamp_toInt hx, show ((10 - Int32.toInt 0).toNat + 1) = 11 by decide, c1]
      dsimp only
      have hx1 : (x + 1).toInt = ((p + 1 : Nat) : Int) := by rw [add1 (b := 10) (by omega) (by omega), hx]; omega
      have hc1 : ∀ z, z ≠ lf → u2 I lf p c z = I0 z := fun z h => by rw [u2_ne h, hc z h]
      have dp : dW (u2 I lf p c) lf p = c.toInt := by unfold dW; rw [u2_at]
      have dn : ∀ u, u ≠ p → dW (u2 I lf p c) lf u = dW I lf u := fun u h => by unfold dW; rw [u2_nk h]
      have hB1 : BI (gW I0 ww) b (dW (u2 I lf p c) lf) := BI.upd hg hB hp10 dn (by rw [dp]; exact c2) (by rw [dp]; exact c4)
      have hle1 : ∀ v, v < 10 → dW (u2 I lf p c) lf v ≤ dW I0 lf v := fun v hv => by
        have := hle v hv
        by_cases z : v = p
        · subst z; rw [dp]; omega
        · rw [dn v z]; exact this
      have hst1 : ∀ v u, v < p + 1 → u < 10 → dW (u2 I lf p c) lf v ≤ gW I0 ww v u + dW I0 lf u := fun v u hv hu => by
        by_cases z : v = p
        · subst z
          rw [dp]
          have := c3 u hu
          have := hle u hu
          omega
        · rw [dn v z]; exact hst v u (by omega) hu
      have go1 := ih (p + 1) (x + 1) 1 (u2 I lf p c) hx1 (by omega) (by omega) hc1 hB1 hle1 hst1 (fun h => absurd h (by decide))
      by_cases q : c.toInt < dW I lf p
      · rw [if_pos q, if_neg (show ¬ (1 : Int32) = 0 by decide)]
        exact go1
      · rw [if_neg q, if_pos (show (0 : Int32) = 0 from rfl)]
        by_cases q2 : fl = 0
        · rw [if_pos q2]
          refine ih (p + 1) (x + 1) 0 (u2 I lf p c) hx1 (by omega) (by omega) hc1 hB1 hle1 hst1 (fun _ v hv => ?_)
          have h9 := hfl q2
          by_cases z : v = p
          · subst z
            rw [dp, ← h9 v hv]
            omega
          · rw [dn v z]; exact h9 v hv
        · rw [if_neg q2]
          exact go1
theorem rounds_l (v2 : R wy 2 = some ww) (v3 : R wy 3 = some lf) (ne : ww ≠ lf) {xto : Int32} {b : Nat} {I0 : hI} (hg : Wg (gW I0 ww)) :
    ∀ (f k : Nat) (x fl : Int32) (I : hI), x.toInt = k → k ≤ 10 → 10 < f + k → (∀ z, z ≠ lf → I z = I0 z) → BI (gW I0 ww) b (dW I lf) → PK (gW I0 ww) b k (dW I lf) → (fl = 0 → FP (gW I0 ww) (dW I lf)) →
      ∃ I1, F_X9_measure_20 wy xto lf f I J R fl x = (I1, J, R) ∧ (∀ z, z ≠ lf → I1 z = I0 z) ∧ BI (gW I0 ww) b (dW I1 lf) ∧ FP (gW I0 ww) (dW I1 lf) := by
  intro f
  induction f with
  | zero => intro k x fl I _ q1 q2; omega
  | succ f ih =>
    intro k x fl I hx hk hf hc hB hP hfl
    rw [F_X9_measure_20_s]
    simp only [B_X9_measure_20, F_X9_measure_73]
    by_cases e : k = 10
    · rw [if_pos (by rw [ile, hx, cI10]; omega)]
      subst e
      exact ⟨I, rfl, hc, hB, PK.fp hg hB hP⟩
    · rw [if_neg (by rw [ile, hx, cI10]; omega)]
      by_cases q : fl = 0
      · rw [if_pos q]
        exact ⟨I, rfl, hc, hB, hfl q⟩
      · rw [if_neg q]
        have eg : gW I ww = gW I0 ww := by unfold gW; rw [hc ww ne]
        obtain ⟨I1, fl', c1, c2, c3, c4, c5⟩ := round_l (J := J) (xto := xto) (xch := fl) (xr := x) (K := F_X9_measure_20 wy xto lf f) (b := b) v2 v3 ne (I0 := I) (by rw [eg]; exact hg) 11 0 0 0 I (by decide) (by omega) (by omega) (fun _ _ => rfl) (by rw [eg]; exact hB) (fun _ _ => Int.le_refl _) (fun v u hv => by omega) (fun _ _ _ => rfl)
        rw [eg] at c3 c4
        rw [show ((10 - Int32.toInt 0).toNat + 1) = 11 by decide, c1]
        have hx1 : (x + 1).toInt = ((k + 1 : Nat) : Int) := by rw [add1 (b := 10) (by omega) (by omega), hx]; omega
        refine ih (k + 1) (x + 1) fl' I1 hx1 (by omega) (by omega) (fun z h => by rw [c2 z h, hc z h]) c3 (hP.step c4 c3.1) (fun h v u hv hu => ?_)
        have h1 := c4 v u hv hu
        rw [← c5 h u hu] at h1
        exact h1
theorem wmeasE (v2 : R wy 2 = some ww) (v3 : R wy 3 = some lf) (ne : ww ≠ lf) {xto : Int32} {b : Nat} (hb : xto.toInt = b) (bb : b < 10) {I : hI} (hg : Wg (gW I ww)) :
    ∃ I1, F_X9_measure wy xto I J R = (I1, J, R) ∧ (∀ z, z ≠ lf → I1 z = I z) ∧ BI (gW I ww) b (dW I1 lf) ∧ FP (gW I ww) (dW I1 lf) := by
  simp only [F_X9_measure, nm, nmW, v3, Option.getD_some, fill_46, clamp_toInt hb]
  have cF : Int32.toInt 268435456 = 268435456 := by decide
  have dd : ∀ v, v < 10 → dW (u2 (fillF I lf 10 268435456) lf b 0) lf v = if v = b then 0 else 268435456 := fun v hv => by
    unfold dW
    by_cases e : v = b
    · rw [if_pos e, e, u2_at]; decide
    · rw [if_neg e, u2_nk e, fillF_at hv]; decide
  rw [show ((10 - Int32.toInt 0).toNat + 1) = 11 by decide]
  refine rounds_l (b := b) v2 v3 ne hg 11 0 0 1 _ (by decide) (by omega) (by omega) (fun z h => by rw [u2_ne h, fillF_ne h]) ⟨by rw [dd b bb, if_pos rfl], fun v hv => ?_, fun v hv e hd => ?_⟩ (fun j hj v hv c hc => ?_) (fun h => absurd h (by decide))
  · rw [dd v hv]
    split <;> omega
  · rw [dd v hv, if_neg e] at hd
    omega
  · obtain rfl : j = 0 := by omega
    obtain ⟨e1, e2⟩ : v = b ∧ c = 0 := hc
    rw [dd v hv, if_pos e1, e2]
    omega
theorem wnext_l (v2 : R wy 2 = some ww) (v3 : R wy 3 = some lf) {xv : Int32} {v : Nat} (hv : xv.toInt = v) (bv : v < 10) {I : hI} (hg : Wg (gW I ww)) (hd : ∀ u, u < 10 → 0 ≤ dW I lf u ∧ dW I lf u ≤ 268435456) :
    ∀ (f p n : Nat) (x : Int32), x.toInt = p → p + n = 10 → n < f → (F_X9_nextOf_2 wy xv f I J R x).toInt = if nx (gW I ww) (dW I lf) v p n < 10 then (nx (gW I ww) (dW I lf) v p n : Int) else -1 := by
  intro f
  induction f with
  | zero => intro p n x _ _ q; omega
  | succ f ih =>
    intro p n x hx hp hf
    rw [F_X9_nextOf_2_s]
    simp only [B_X9_nextOf_2, nm, v2, v3, Option.getD_some]
    cases n with
    | zero =>
      rw [if_pos (by rw [ile, hx, cI10]; omega)]
      rw [show nx (gW I ww) (dW I lf) v p 0 = p from rfl, if_neg (by omega)]
      decide
    | succ n =>
      rw [if_neg (by rw [ile, hx, cI10]; omega)]
      have i1 : (xv * 10 + x).toNatClampNeg = v * 10 + p := idx2 hv hx (show Int32.toInt 10 = ((10 : Nat) : Int) by decide) (by omega)
      rw [i1, clamp_toInt hx, clamp_toInt hv]
      have hgp := hg v p bv (by omega)
      have hdp := hd p (by omega)
      have hs : (I ww (v * 10 + p) + I lf p).toInt = gW I ww v p + dW I lf p := iadd (show (I ww (v * 10 + p)).toInt = gW I ww v p from rfl) (show (I lf p).toInt = dW I lf p from rfl) (by omega) (by omega)
      have eq : (I ww (v * 10 + p) + I lf p = I lf v) = (gW I ww v p + dW I lf p = dW I lf v) := by rw [ieq, hs]; rfl
      by_cases e : gW I ww v p + dW I lf p = dW I lf v
      · have e9 : nx (gW I ww) (dW I lf) v p (n + 1) = p := by simp only [nx, if_pos e]
        rw [if_pos (eq.mpr e), e9, if_pos (by omega), hx]
      · have e9 : nx (gW I ww) (dW I lf) v p (n + 1) = nx (gW I ww) (dW I lf) v (p + 1) n := by simp only [nx, if_neg e]
        rw [if_neg (fun z => e (eq.mp z)), e9]
        exact ih (p + 1) n (x + 1) (by rw [add1 (b := 10) (by omega) (by omega), hx]; omega) (by omega) (by omega)
def wsrc (e : Nat) : Nat := e / 10
def wdst (e : Nat) : Nat := e % 10
theorem wfind_l {fc : Nat} (v2 : R wy 2 = some ww) (v3 : R wy 3 = some lf) (v6 : R wy 6 = some fc) (n1 : ww ≠ fc) (n2 : lf ≠ fc) (n3 : ww ≠ wy) (n4 : lf ≠ wy) (n5 : fc ≠ wy) {x1 x2 y : Int32} {bb b : Nat} (hb : x2.toInt = b) {I0 : hI} (hg : Wg (gW I0 ww)) (hB : BI (gW I0 ww) b (dW I0 lf)) (hF : FP (gW I0 ww) (dW I0 lf)) :
    ∀ (f n v i : Nat) (xv xi : Int32) (I : hI), xv.toInt = v → xi.toInt = i → v < 10 → dW I0 lf v < 268435456 → rk 10 (dW I0 lf) (dW I0 lf v) ≤ n → i + rk 10 (dW I0 lf) (dW I0 lf v) ≤ 9 → 10 < f + i → (I wy 5).toInt = i → I ww = I0 ww → I lf = I0 lf →
      ∃ I1, F_X9_find_45 wy x1 x2 y bb f I J R xv xi = (1, (I1, J, R)) ∧ (I1 wy 5).toInt = i + ((gry wdst (fun v => 10 * v + nx (gW I0 ww) (dW I0 lf) v 0 10) b n v).length : Int) + 1 ∧ (∀ k, k ≠ 5 → I1 wy k = I wy k) ∧ (∀ z, z ≠ wy → z ≠ fc → I1 z = I z) ∧ (∀ j, j < i → I1 fc j = I fc j) ∧ (I1 fc i).toInt = v ∧ ∀ j e, (gry wdst (fun v => 10 * v + nx (gW I0 ww) (dW I0 lf) v 0 10) b n v)[j]? = some e → (I1 fc (i + 1 + j)).toInt = wdst e := by
  intro f
  induction f with
  | zero => intro n v i xv xi I _ _ _ _ _ q1 q2; omega
  | succ f ih =>
    intro n v i xv xi I hv hi hv10 hd hn hi9 hf h5 hw hl
    rw [F_X9_find_45_s]
    simp only [B_X9_find_45, nm, v6, Option.getD_some, clamp_toInt hi]
    rw [if_neg (by rw [ile, hi, cI10]; omega), if_neg (by rw [ieq, hv, cIm1]; omega)]
    have hi1 : (xi + 1).toInt = ((i + 1 : Nat) : Int) := by rw [add1 (b := 10) (by omega) (by omega), hi]; omega
    have h51 : (I wy 5 + 1).toInt = ((i + 1 : Nat) : Int) := by rw [add1 (b := 10) (by omega) (by omega), h5]; omega
    obtain ⟨I2, hI2⟩ : ∃ I2, I2 = u2 (u2 I fc i xv) wy 5 (I wy 5 + 1) := ⟨_, rfl⟩
    rw [← hI2]
    have a1 : I2 ww = I0 ww := by rw [hI2, u2_ne n3, u2_ne n1, hw]
    have a2 : I2 lf = I0 lf := by rw [hI2, u2_ne n4, u2_ne n2, hl]
    have a3 : (I2 wy 5).toInt = ((i + 1 : Nat) : Int) := by rw [hI2, u2_at, h51]
    have a4 : ∀ k, k ≠ 5 → I2 wy k = I wy k := fun k h => by rw [hI2, u2_nk h, u2_ne (fun z => n5 z.symm)]
    have a5 : ∀ z, z ≠ wy → z ≠ fc → I2 z = I z := fun z h1 h2 => by rw [hI2, u2_ne h1, u2_ne h2]
    have a6 : ∀ j, j ≠ i → I2 fc j = I fc j := fun j h => by rw [hI2, u2_ne n5, u2_nk h]
    have a7 : (I2 fc i).toInt = v := by rw [hI2, u2_ne n5, u2_at, hv]
    by_cases e : v = b
    · rw [if_pos (by rw [ieq, hv, hb, e])]
      have eg : gry wdst (fun v => 10 * v + nx (gW I0 ww) (dW I0 lf) v 0 10) b n v = [] := by
        cases n with
        | zero => rfl
        | succ n => simp only [gry, if_pos e]
      rw [eg]
      obtain ⟨f', rfl⟩ : ∃ f', f = f' + 1 := ⟨f - 1, by omega⟩
      rw [F_X9_find_45_s]
      simp only [B_X9_find_45, nm, ite_self, if_pos]
      refine ⟨I2, rfl, ?_, a4, a5, fun j hj => a6 j (by omega), a7, fun j e h => by simp at h⟩
      rw [a3]
      simp
    · rw [if_neg (by rw [ieq, hv, hb]; omega)]
      obtain ⟨t1, t2, t3⟩ := tight hB hF hv10 e hd
      obtain ⟨u, hu⟩ : ∃ u, u = nx (gW I0 ww) (dW I0 lf) v 0 10 := ⟨_, rfl⟩
      rw [← hu] at t1 t2
      have g1 := (hg v u hv10 t2).1
      have hr := rk_lt (d := dW I0 lf) (x := dW I0 lf u) (y := dW I0 lf v) (u := u) (Int.le_refl _) (by omega) 10 t2
      have eg1 : gW I2 ww = gW I0 ww := by unfold gW; rw [a1]
      have ed1 : dW I2 lf = dW I0 lf := by unfold dW; rw [a2]
      have nxt := wnext_l (J := J) (I := I2) v2 v3 hv hv10 (by rw [eg1]; exact hg) (by rw [ed1]; exact hB.2.1) 11 0 10 0 (by decide) (by omega) (by omega)
      rw [eg1, ed1, ← hu, if_pos t2] at nxt
      have nxt : (F_X9_nextOf wy xv I2 J R).toInt = u := nxt
      obtain ⟨n', rfl⟩ : ∃ n', n = n' + 1 := ⟨n - 1, by omega⟩
      have eg : gry wdst (fun v => 10 * v + nx (gW I0 ww) (dW I0 lf) v 0 10) b (n' + 1) v = (10 * v + u) :: gry wdst (fun v => 10 * v + nx (gW I0 ww) (dW I0 lf) v 0 10) b n' u := by
        simp only [gry, if_neg e, ← hu]
        rw [show wdst (10 * v + u) = u by unfold wdst; omega]
      rw [eg]
      obtain ⟨I1, b1, b2, b3, b4, b5, b6, b7⟩ := ih n' u (i + 1) _ (xi + 1) I2 nxt hi1 t2 (by omega) (by omega) (by omega) (by omega) a3 a1 a2
      refine ⟨I1, b1, ?_, fun k h => by rw [b3 k h, a4 k h], fun z h1 h2 => by rw [b4 z h1 h2, a5 z h1 h2], fun j hj => by rw [b5 j (by omega), a6 j (by omega)], by rw [b5 i (by omega)]; exact a7, fun j e' h => ?_⟩
      · rw [b2]
        simp only [List.length_cons]
        omega
      · cases j with
        | zero =>
          rw [List.getElem?_cons_zero] at h
          cases h
          rw [Nat.add_zero, b6]
          unfold wdst
          omega
        | succ j =>
          rw [List.getElem?_cons_succ] at h
          have := b7 j e' h
          rw [show i + 1 + (j + 1) = i + 1 + 1 + j by omega]
          exact this
end WAYC
