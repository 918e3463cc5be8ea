/-! turning(): the class's answers and the model's -/
theorem sfx_get {g : Nat → Nat} : ∀ m k j, (sfx g k m)[j]? = if j < m then some (g (k + j)) else none := by
  intro m
  induction m with
  | zero => intro k j; simp [sfx]
  | succ m ih =>
    intro k j
    cases j with
    | zero => simp [sfx]
    | succ j =>
      simp only [sfx, List.getElem?_cons_succ, ih (k + 1) j]
      by_cases h : j < m
      · rw [if_pos h, if_pos (by omega), show k + 1 + j = k + (j + 1) by omega]
      · rw [if_neg h, if_neg (by omega)]
section TURNING
variable {ru rf rt rc rth w fi : Nat} {I : hI} {J : hJ} {R : hR}
theorem costB {x1 x2 : Int32} {a b : Nat} (v8 : R ru 8 = some w) (h1 : x1.toInt = a) (h2 : x2.toInt = b) (ha : a < 7) (hb : b < 7) (h0 : 0 ≤ (I w (a * 7 + b)).toInt) : (F_X6_costBetween ru x1 x2 I J R).toInt = if (I w (a * 7 + b)).toInt < 268435456 then (I w (a * 7 + b)).toInt / 8 else -1 := by
  have c7 : Int32.toInt 7 = ((7 : Nat) : Int) := by decide
  have i1 : (x1 * 7 + x2).toNatClampNeg = a * 7 + b := idx2 h1 h2 c7 (by omega)
  simp only [F_X6_costBetween, F_X6_costBetween_26, nm, v8, Option.getD_some, i1]
  by_cases h : (I w (a * 7 + b)).toInt < 268435456
  · rw [if_pos (by rw [ilt, show Int32.toInt 268435456 = 268435456 by decide]; exact h), if_pos h]
    have e := idiv (x := I w (a * 7 + b)) (y := 8) (nat_of h0).symm (show Int32.toInt 8 = ((8 : Nat) : Int) by decide) (by omega)
    have := nat_of h0
    rw [e]; omega
  · rw [if_neg (by rw [ilt, show Int32.toInt 268435456 = 268435456 by decide]; exact h), if_neg h]
    decide
theorem stepsB {x1 x2 : Int32} {a b : Nat} (v8 : R ru 8 = some w) (h1 : x1.toInt = a) (h2 : x2.toInt = b) (ha : a < 7) (hb : b < 7) (h0 : 0 ≤ (I w (a * 7 + b)).toInt) : (F_X6_stepsBetween ru x1 x2 I J R).toInt = (I w (a * 7 + b)).toInt % 8 := by
  have c7 : Int32.toInt 7 = ((7 : Nat) : Int) := by decide
  have i1 : (x1 * 7 + x2).toNatClampNeg = a * 7 + b := idx2 h1 h2 c7 (by omega)
  simp only [F_X6_stepsBetween, nm, v8, Option.getD_some, i1]
  have e := irem (x := I w (a * 7 + b)) (y := 8) (nat_of h0).symm (show Int32.toInt 8 = ((8 : Nat) : Int) by decide) (by omega)
  have := nat_of h0
  rw [e]; omega
theorem stepA_l (v1 : R ru 1 = some rt) (v9 : R ru 9 = some fi) (hr : Rl I ru rf rt rc) (hT : Tb I ru rf rt rc rth w fi) {x1 x2 x3 : Int32} {b s : Nat} (h2 : x2.toInt = b) (hb : b < 7) (h3 : x3.toInt = s) :
    ∀ (f n v i : Nat) (xv xi : Int32), xv.toInt = v → xi.toInt = i → v < 7 → (I w (v * 7 + b)).toInt < 268435456 → rk 7 (fun u => (I w (u * 7 + b)).toInt) (I w (v * 7 + b)).toInt ≤ n → i + rk 7 (fun u => (I w (u * 7 + b)).toInt) (I w (v * 7 + b)).toInt ≤ 6 → i ≤ s → 7 < f + i →
      (F_X6_stepAt_6 ru x1 x2 x3 f I J R xv xi).toInt = match (gry (sr I rt) (fun u => (I fi (u * 7 + b)).toNatClampNeg) b n v)[s - i]? with | some e => (e : Int) | none => -1 := by
  intro f
  induction f with
  | zero => intro n v i xv xi _ _ _ _ _ h _ h2; omega
  | succ f ih =>
    intro n v i xv xi hv hi hv7 hd hn hi6 his hf
    rw [F_X6_stepAt_6_s]
    simp only [B_X6_stepAt_6, F_X6_stepAt_63, F_X6_stepAt_45, nm, v1, v9, Option.getD_some]
    rw [if_neg (by rw [ile, hi, cI7]; omega)]
    by_cases e : v = b
    · rw [if_pos (by rw [ieq, hv, h2, e])]
      have : gry (sr I rt) (fun u => (I fi (u * 7 + b)).toNatClampNeg) b n v = [] := by
        cases n with
        | zero => rfl
        | succ n => simp only [gry, if_pos e]
      rw [this]
      simp
    · rw [if_neg (by rw [ieq, hv, h2]; omega)]
      have c7 : Int32.toInt 7 = ((7 : Nat) : Int) := by decide
      have i1 : (xv * 7 + x2).toNatClampNeg = v * 7 + b := idx2 hv h2 c7 (by omega)
      rw [i1]
      obtain ⟨e0, q1, q2, q3, q4, q5⟩ := hT.2 v b hv7 hb e hd
      have hE := EokR (rth := rth) hr e0 q2
      have hlt : (I w (sr I rt e0 * 7 + b)).toInt < (I w (v * 7 + b)).toInt := by have := hE.2.2.1; omega
      have hrk := rk_lt (d := fun u => (I w (u * 7 + b)).toInt) (x := (I w (sr I rt e0 * 7 + b)).toInt) (y := (I w (v * 7 + b)).toInt) (u := sr I rt e0) (Int.le_refl _) hlt 7 hE.2.1
      have efi : (I fi (v * 7 + b)).toNatClampNeg = e0 := clamp_toInt q1
      rw [if_neg (by rw [ieq, q1, cIm1]; omega), efi]
      obtain ⟨n1, rfl⟩ : ∃ n1, n = n1 + 1 := ⟨n - 1, by omega⟩
      have eg : gry (sr I rt) (fun u => (I fi (u * 7 + b)).toNatClampNeg) b (n1 + 1) v = e0 :: gry (sr I rt) (fun u => (I fi (u * 7 + b)).toNatClampNeg) b n1 (sr I rt e0) := by
        simp only [gry, if_neg e, efi]
      rw [eg]
      by_cases es : i = s
      · rw [if_pos (by rw [ieq, hi, h3, es]), show s - i = 0 by omega, q1]
        rfl
      · rw [if_neg (by rw [ieq, hi, h3]; omega)]
        have et : (I rt e0).toInt = (sr I rt e0 : Nat) := (nat_of (hr.2 e0 hE.2.2.2).2.1.1).symm
        rw [ih n1 (sr I rt e0) (i + 1) (I rt e0) (xi + 1) et (by rw [add1 (b := 7) (by omega) (by omega), hi]; omega) hE.2.1 (by omega) (by omega) (by omega) (by omega) (by omega)]
        rw [show s - i = (s - (i + 1)) + 1 by omega, List.getElem?_cons_succ]
theorem stepA (v1 : R ru 1 = some rt) (v9 : R ru 9 = some fi) (hr : Rl I ru rf rt rc) (hT : Tb I ru rf rt rc rth w fi) {x1 x2 x3 : Int32} {a b s : Nat} (h1 : x1.toInt = a) (h2 : x2.toInt = b) (h3 : x3.toInt = s) (ha : a < 7) (hb : b < 7) (hd : (I w (a * 7 + b)).toInt < 268435456) :
    (F_X6_stepAt ru x1 x2 x3 I J R).toInt = match (gry (sr I rt) (fun u => (I fi (u * 7 + b)).toNatClampNeg) b 7 a)[s]? with | some e => (e : Int) | none => -1 := by
  have hrk : rk 7 (fun u => (I w (u * 7 + b)).toInt) (I w (a * 7 + b)).toInt < 7 := rk_lt_n (u := a) (Int.le_refl _) 7 ha
  exact stepA_l (J := J) v1 v9 hr hT h2 hb h3 8 7 a 0 x1 0 h1 (by decide) ha hd (by omega) (by omega) (by omega) (by omega)
end TURNING
