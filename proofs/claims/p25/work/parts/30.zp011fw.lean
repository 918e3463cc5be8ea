/-! the class's table of weights: all pairs, by shortening -/
theorem minI {x y : Int32} : (F_J9_min_7cf53 x y).toInt = min x.toInt y.toInt := by
  simp only [F_J9_min_7cf53, F_J9_min_7cf53_10, ilt]
  split <;> omega
/-- one round of shortening, in place -/
theorem short_l {ru w : Nat} {m : Nat} {xm : Int32} {od : Nat → Int} {J : hJ} {R : hR} (vw : R ru 8 = some w) (hm : xm.toInt = m) (hm7 : m < 7) (h0 : ∀ q, q < 49 → 0 ≤ od q ∧ od q ≤ 268435456) (hd : od (m * 7 + m) = 0) :
    ∀ (f p : Nat) (x : Int32) (I : hI), x.toInt = p → p ≤ 49 → 49 < f + p → (∀ q, q < 49 → (I w q).toInt = if q < p then min (od q) (od (q / 7 * 7 + m) + od (m * 7 + q % 7)) else od q) →
      ∃ I1, F_X6_shortenBy_2 ru xm f I J R x = (I1, J, R) ∧ (∀ c, c ≠ w → I1 c = I c) ∧ ∀ q, q < 49 → (I1 w q).toInt = min (od q) (od (q / 7 * 7 + m) + od (m * 7 + q % 7)) := by
  intro f
  induction f with
  | zero => intro p x I _ h1 h2; omega
  | succ f ih =>
    intro p x I hx h1 h2 hI
    rw [F_X6_shortenBy_2_s]
    simp only [B_X6_shortenBy_2, nm, vw, Option.getD_some]
    by_cases hp : p = 49
    · rw [if_pos (by rw [ile, hx, show Int32.toInt 49 = 49 by decide]; omega)]
      subst hp
      exact ⟨I, rfl, fun _ _ => rfl, fun q hq => by rw [hI q hq, if_pos hq]⟩
    · rw [if_neg (by rw [ile, hx, show Int32.toInt 49 = 49 by decide]; omega)]
      have c7 : Int32.toInt 7 = ((7 : Nat) : Int) := by decide
      have d7 := idiv hx c7 (by omega)
      have r7 := irem hx c7 (by omega)
      have i1 : (x / 7 * 7 + xm).toNatClampNeg = p / 7 * 7 + m := idx2 d7 hm c7 (by omega)
      have i2 : (xm * 7 + (x - x / 7 * 7)).toNatClampNeg = m * 7 + p % 7 := idx2 hm r7 c7 (by omega)
      rw [i1, i2, clamp_toInt hx]
      have l1 : (I w (p / 7 * 7 + m)).toInt = od (p / 7 * 7 + m) := by
        rw [hI _ (by omega)]
        by_cases q : p / 7 * 7 + m < p
        · rw [if_pos q, show (p / 7 * 7 + m) / 7 = p / 7 by omega, show (p / 7 * 7 + m) % 7 = m by omega, hd]
          omega
        · rw [if_neg q]
      have l2 : (I w (m * 7 + p % 7)).toInt = od (m * 7 + p % 7) := by
        rw [hI _ (by omega)]
        by_cases q : m * 7 + p % 7 < p
        · rw [if_pos q, show (m * 7 + p % 7) / 7 = m by omega, show (m * 7 + p % 7) % 7 = p % 7 by omega, hd]
          omega
        · rw [if_neg q]
      have l0 : (I w p).toInt = od p := by rw [hI p (by omega), if_neg (by omega)]
      have b1 := h0 (p / 7 * 7 + m) (by omega)
      have b2 := h0 (m * 7 + p % 7) (by omega)
      have s1 := iadd l1 l2 (by omega) (by omega)
      obtain ⟨I1, e1, e2, e3⟩ := ih (p + 1) (x + 1) (u2 I w p (F_J9_min_7cf53 (I w p) (I w (p / 7 * 7 + m) + I w (m * 7 + p % 7)))) (by rw [add1 (b := 49) (by omega) (by omega), hx]; omega) (by omega) (by omega) (by
        intro q hq
        by_cases e : q = p
        · subst e
          rw [u2_at, minI, l0, s1, if_pos (by omega)]
        · rw [u2_nk e, hI q hq]
          by_cases q1 : q < p
          · rw [if_pos q1, if_pos (by omega)]
          · rw [if_neg q1, if_neg (by omega)])
      exact ⟨I1, e1, fun c hc => by rw [e2 c hc, u2_ne hc], e3⟩
theorem short {ru w : Nat} {m : Nat} {xm : Int32} {od : Nat → Int} {I : hI} {J : hJ} {R : hR} (vw : R ru 8 = some w) (hm : xm.toInt = m) (hm7 : m < 7) (h0 : ∀ q, q < 49 → 0 ≤ od q ∧ od q ≤ 268435456) (hd : od (m * 7 + m) = 0) (hI : ∀ q, q < 49 → (I w q).toInt = od q) :
    ∃ I1, F_X6_shortenBy ru xm I J R = (I1, J, R) ∧ (∀ c, c ≠ w → I1 c = I c) ∧ ∀ q, q < 49 → (I1 w q).toInt = min (od q) (od (q / 7 * 7 + m) + od (m * 7 + q % 7)) :=
  short_l vw hm hm7 h0 hd 50 0 0 I (by decide) (by omega) (by omega) (fun q hq => by rw [hI q hq, if_neg (by omega)])
/-- what a table of weights has after the middles 0 .. k - 1 -/
def Fw (k : Nat) (w : Nat → Int) (src dst : Nat → Nat) (pr : Nat → Prop) (D : Nat → Int) : Prop :=
  (∀ q, q < 49 → 0 ≤ D q ∧ D q ≤ 268435456) ∧ (∀ i, i < 7 → D (i * 7 + i) = 0) ∧ (∀ i j m, i < 7 → j < 7 → m < k → D (i * 7 + j) ≤ D (i * 7 + m) + D (m * 7 + j)) ∧ (∀ e, pr e → D (src e * 7 + dst e) ≤ w e) ∧
    (∀ i j, i < 7 → j < 7 → i ≠ j → D (i * 7 + j) < 268435456 → ∃ e, pr e ∧ src e = i ∧ w e + D (dst e * 7 + j) ≤ D (i * 7 + j))
theorem Fw.step {k : Nat} {w : Nat → Int} {src dst : Nat → Nat} {pr : Nat → Prop} {D D1 : Nat → Int} (hE : ∀ e, pr e → src e < 7 ∧ dst e < 7) (h : Fw k w src dst pr D) (hk : k < 7) (h1 : ∀ q, q < 49 → D1 q = min (D q) (D (q / 7 * 7 + k) + D (k * 7 + q % 7))) : Fw (k + 1) w src dst pr D1 := by
  obtain ⟨a1, a2, a3, a4, a5⟩ := h
  have ix : ∀ i j, i < 7 → j < 7 → i * 7 + j < 49 := fun i j _ _ => by omega
  have e1 : ∀ i j, i < 7 → j < 7 → D1 (i * 7 + j) = min (D (i * 7 + j)) (D (i * 7 + k) + D (k * 7 + j)) := fun i j hi hj => by
    rw [h1 _ (ix i j hi hj), show (i * 7 + j) / 7 * 7 = i * 7 by omega, show (i * 7 + j) % 7 = j by omega]
  have ek := a2 k hk
  refine ⟨fun q hq => ?_, fun i hi => ?_, fun i j m hi hj hm => ?_, fun e he => ?_, fun i j hi hj ne hlt => ?_⟩
  · rw [h1 q hq]
    have := a1 q hq
    have := a1 (q / 7 * 7 + k) (by omega)
    have := a1 (k * 7 + q % 7) (by omega)
    omega
  · rw [e1 i i hi hi, a2 i hi]
    have := a1 (i * 7 + k) (by omega)
    have := a1 (k * 7 + i) (by omega)
    omega
  · by_cases q : m = k
    · subst q
      rw [e1 i j hi hj, e1 i m hi hk, e1 m j hk hj, ek]
      have := a1 (i * 7 + m) (by omega)
      have := a1 (m * 7 + j) (by omega)
      omega
    · have hm' : m < k := by omega
      rw [e1 i j hi hj, e1 i m hi (by omega), e1 m j (by omega) hj]
      have t1 := a3 i j m hi hj hm'
      have t2 := a3 k j m hk hj hm'
      have t3 := a3 i k m hi hk hm'
      have := a1 (k * 7 + m) (by omega)
      have := a1 (m * 7 + k) (by omega)
      omega
  · obtain ⟨s1, s2⟩ := hE e he
    have := a4 e he
    rw [e1 _ _ s1 s2]
    omega
  · rw [e1 i j hi hj] at hlt ⊢
    by_cases q : D (i * 7 + j) ≤ D (i * 7 + k) + D (k * 7 + j)
    · obtain ⟨e, p1, p2, p3⟩ := a5 i j hi hj ne (by omega)
      refine ⟨e, p1, p2, ?_⟩
      rw [e1 _ _ (hE e p1).2 hj]
      omega
    · have nik : i ≠ k := fun e => by subst e; rw [ek] at q; omega
      have := a1 (k * 7 + j) (by omega)
      obtain ⟨e, p1, p2, p3⟩ := a5 i k hi hk nik (by omega)
      refine ⟨e, p1, p2, ?_⟩
      rw [e1 _ _ (hE e p1).2 hj]
      omega
