theorem lc_lt {y : Int32} {a b : Int64} (e : y = lg_cmp a b) (q : y < 0) : a.toInt < b.toInt := by rw [e] at q; exact Int64.lt_iff_toInt_lt.mp ((lg_cmp_lt a b).mp q)
theorem lc_nlt {y : Int32} {a b : Int64} (e : y = lg_cmp a b) (q : ¬ y < 0) : b.toInt ≤ a.toInt := by rw [e, lg_cmp_lt, Int64.lt_iff_toInt_lt] at q; omega
theorem lc_gt {y : Int32} {a b : Int64} (e : y = lg_cmp a b) (q : 0 < y) : b.toInt < a.toInt := by rw [e] at q; exact Int64.lt_iff_toInt_lt.mp ((lg_cmp_gt a b).mp q)
theorem lc_ngt {y : Int32} {a b : Int64} (e : y = lg_cmp a b) (q : ¬ 0 < y) : a.toInt ≤ b.toInt := by rw [e, lg_cmp_gt, Int64.lt_iff_toInt_lt] at q; omega
theorem lc_ge {y : Int32} {a b : Int64} (e : y = lg_cmp a b) (q : 0 ≤ y) : b.toInt ≤ a.toInt := by rw [e] at q; exact Int64.le_iff_toInt_le.mp ((lg_cmp_ge a b).mp q)
theorem lc_nge {y : Int32} {a b : Int64} (e : y = lg_cmp a b) (q : ¬ 0 ≤ y) : a.toInt < b.toInt := by rw [e, lg_cmp_ge, Int64.le_iff_toInt_le] at q; omega
theorem lc_le {y : Int32} {a b : Int64} (e : y = lg_cmp a b) (q : y ≤ 0) : a.toInt ≤ b.toInt := by rw [e] at q; exact Int64.le_iff_toInt_le.mp ((lg_cmp_le a b).mp q)
theorem lc_nle {y : Int32} {a b : Int64} (e : y = lg_cmp a b) (q : ¬ y ≤ 0) : b.toInt < a.toInt := by rw [e, lg_cmp_le, Int64.le_iff_toInt_le] at q; omega
theorem lc_eq {y : Int32} {a b : Int64} (e : y = lg_cmp a b) (q : y = 0) : a.toInt = b.toInt := by rw [e] at q; rw [(lg_cmp_eq a b).mp q]
theorem lc_ne {y : Int32} {a b : Int64} (e : y = lg_cmp a b) (q : ¬ y = 0) : a.toInt ≠ b.toInt := by
  rw [e, lg_cmp_eq] at q
  exact fun h => q (Int64.toInt_inj.mp h)
theorem ne_role {C : Nat → Nat} {a b r q : Nat} (h1 : C a = r) (h2 : C b = q) (h : r ≠ q) : a ≠ b := fun e => h (by rw [← h1, ← h2, e])
theorem nm_arr {r k : Nat} {ms : List Nat} (hr : 32 ≤ r) (h : ms.contains (r * 64) = false) : mC r k ∉ ms := by
  unfold mC
  rw [if_neg (by omega)]
  intro q
  have : ms.contains (r * 64) = true := by simpa using q
  rw [h] at this
  cases this
theorem Rg_ne0 {x : Int32} {a b : Int} (r : Rg x a b) (q : 0 < a) : ¬ x = 0 := by
  intro h
  rw [h] at r
  have h1 := r.1
  have e0 : Int32.toInt 0 = 0 := by decide
  omega
theorem Rg_nat {x : Int32} {a b : Int} {n : Nat} (r : Rg x a b) (q : 0 ≤ a ∧ b < n) : x.toNatClampNeg < n := Nat.not_le.mp fun h => (Rg_in r q) (Or.inr h)
theorem clamp_toInt {x : Int32} {k : Nat} (h : x.toInt = k) : x.toNatClampNeg = k := by
  show x.toInt.toNat = k
  rw [h]; rfl
/-- the four places as a number to the base five -/
def val4 (f : Nat → Int32) : Int := 125 * (f 0).toInt + 25 * (f 1).toInt + 5 * (f 2).toInt + (f 3).toInt
def p5 (i : Int) : Int := if i = 3 then 1 else if i = 2 then 5 else if i = 1 then 25 else if i = 0 then 125 else 625
theorem p5_pos (i : Int) : 0 < p5 i := by unfold p5; split <;> (try split) <;> (try split) <;> (try split) <;> omega
theorem p5_down {i j : Int} (h0 : 0 ≤ i) (h3 : i ≤ 3) (hj : j = i + -1) : p5 j = 5 * p5 i := by
  rcases (show i = 0 ∨ i = 1 ∨ i = 2 ∨ i = 3 by omega) with h | h | h | h <;> subst h <;> subst hj <;> decide
theorem val4_up {I : hI} {a : Nat} {i v : Int32} (r : Rg i 0 3) : val4 (u2 I a i.toNatClampNeg v a) = val4 (I a) + (v.toInt - (I a i.toNatClampNeg).toInt) * p5 i.toInt := by
  obtain ⟨h1, h2⟩ := r
  rw [u2_eq]
  rcases (show i.toInt = (0 : Nat) ∨ i.toInt = (1 : Nat) ∨ i.toInt = (2 : Nat) ∨ i.toInt = (3 : Nat) by omega) with h | h | h | h <;> rw [clamp_toInt h, h] <;> simp [val4, p5] <;> omega
theorem val4_le {L : List Nat} {C : Nat → Nat} {I : hI} {a : Nat} (o : OkI L C I) (ha : a ∈ L) (hC : C a = 90) : 0 ≤ val4 (I a) ∧ val4 (I a) ≤ 624 := by
  have q0 := o a ha 0 (by rw [hC]; decide)
  have q1 := o a ha 1 (by rw [hC]; decide)
  have q2 := o a ha 2 (by rw [hC]; decide)
  have q3 := o a ha 3 (by rw [hC]; decide)
  rw [hC] at q0 q1 q2 q3
  have e0 : rLo 90 0 = 0 ∧ rHi 90 0 = 4 := by decide
  have e1 : rLo 90 1 = 0 ∧ rHi 90 1 = 4 := by decide
  have e2 : rLo 90 2 = 0 ∧ rHi 90 2 = 4 := by decide
  have e3 : rLo 90 3 = 0 ∧ rHi 90 3 = 4 := by decide
  rw [e0.1, e0.2] at q0
  rw [e1.1, e1.2] at q1
  rw [e2.1, e2.2] at q2
  rw [e3.1, e3.2] at q3
  unfold val4
  omega
/-- a WORK that isn't a formula has a field -/
def XW (L : List Nat) (C : Nat → Nat) (I : hI) : Prop := ∀ a ∈ L, ∀ b ∈ L, C a = 75 → C b = 76 → ∀ k, k < 120 → (I a k).toInt ≠ 0 → 0 ≤ (I b k).toInt
theorem XW.sm {L : List Nat} {C : Nat → Nat} {ms : List Nat} {u v : hU} (h : XW L C u.1) (s : Sm C ms u v) (h1 : ms.contains (75 * 64) = false) (h2 : ms.contains (76 * 64) = false) : XW L C v.1 := by
  intro a ha b hb ca cb k hk
  rw [(s a k (by rw [ca]; exact nm_arr (by decide) h1)).1, (s b k (by rw [cb]; exact nm_arr (by decide) h2)).1]
  exact h a ha b hb ca cb k hk
def XM (L : List Nat) (C : Nat → Nat) (I : hI) : Prop := ∀ a ∈ L, C a = 5 → (I a 4).toInt ≠ 0 → 0 ≤ (I a 5).toInt
theorem XM.sm {L : List Nat} {C : Nat → Nat} {ms : List Nat} {u v : hU} (h : XM L C u.1) (s : Sm C ms u v) (h1 : ms.contains (5 * 64 + 4) = false) (h2 : ms.contains (5 * 64 + 5) = false) : XM L C v.1 := by
  intro a ha ca
  rw [(s a 4 (by rw [ca]; exact fun q => by have : ms.contains (5 * 64 + 4) = true := (by simpa [mC] using q); rw [h1] at this; cases this)).1, (s a 5 (by rw [ca]; exact fun q => by have : ms.contains (5 * 64 + 5) = true := (by simpa [mC] using q); rw [h2] at this; cases this)).1]
  exact h a ha ca
/-- roles of which there is one cell alone -/
def rU (r : Nat) : Bool := !(r == 5 || r == 7 || r == 53 || r == 54 || r == 55 || r == 56) && (r < 12 || 32 ≤ r)
def Uq (L : List Nat) (C : Nat → Nat) : Prop := ∀ a ∈ L, ∀ b ∈ L, C a = C b → rU (C a) = true → a = b
theorem dg_step {w n : Nat} {l l' : Int} (h : l = ((w / 8 ^ n : Nat) : Int)) (hl : l' = l / 8) : l' = ((w / 8 ^ (n + 1) : Nat) : Int) := by
  rw [hl, h, Nat.pow_succ, ← Nat.div_div_eq_div_mul]
  generalize w / 8 ^ n = a
  omega
theorem XW.off {L : List Nat} {C : Nat → Nat} {I : hI} {a k r : Nat} {v : Int32} (h : XW L C I) (hC : C a = r) (h1 : r ≠ 75) (h2 : r ≠ 76) : XW L C (u2 I a k v) := by
  intro x hx y hy cx cy j hj
  rw [u2_ne (ne_role cx hC (fun e => h1 e.symm)), u2_ne (ne_role cy hC (fun e => h2 e.symm))]
  exact h x hx y hy cx cy j hj
theorem XW.put {L : List Nat} {C : Nat → Nat} {I : hI} {a b k : Nat} {v1 v2 : Int32} (u : Uq L C) (h : XW L C I) (ha : a ∈ L) (ca : C a = 75) (hb : b ∈ L) (cb : C b = 76) (hv : v1.toInt ≠ 0 → 0 ≤ v2.toInt) : XW L C (u2 (u2 I a k v1) b k v2) := by
  intro x hx y hy cx cy j hj
  have e1 : x = a := u x hx a ha (cx.trans ca.symm) (by rw [cx]; decide)
  have e2 : y = b := u y hy b hb (cy.trans cb.symm) (by rw [cy]; decide)
  subst e1; subst e2
  have ne : x ≠ y := ne_role cx cy (by decide)
  rw [u2_ne ne]
  by_cases hk : j = k
  · subst hk
    rw [u2_at, u2_at]
    exact hv
  · rw [u2_nk hk, u2_nk hk, u2_nk hk]
    exact h x hx y hy cx cy j hj
theorem XM.off {L : List Nat} {C : Nat → Nat} {I : hI} {a k r : Nat} {v : Int32} (h : XM L C I) (hC : C a = r) (h1 : r ≠ 5 ∨ (k ≠ 4 ∧ k ≠ 5)) : XM L C (u2 I a k v) := by
  intro x hx cx
  rcases h1 with h1 | ⟨h1, h2⟩
  · rw [u2_ne (ne_role cx hC (fun e => h1 e.symm))]
    exact h x hx cx
  · rw [u2_nk (fun e => h1 e.symm), u2_nk (fun e => h2 e.symm)]
    exact h x hx cx
theorem XM.put {L : List Nat} {C : Nat → Nat} {I : hI} {a : Nat} {v1 v2 : Int32} (h : XM L C I) (hv : v1.toInt ≠ 0 → 0 ≤ v2.toInt) : XM L C (u2 (u2 I a 4 v1) a 5 v2) := by
  intro x hx cx
  by_cases e : x = a
  · subst e
    rw [u2_at, u2_nk (by decide), u2_at]
    exact hv
  · rw [u2_ne e, u2_ne e]
    exact h x hx cx
