/-! the first best of all rows of places: as a tree (the class), one after another (the model) -/
def bd (b : Int) (o : Option (Int × List Nat)) : Int := match o with
  | none => b
  | some q => q.1
def sq (o : Option (Int × List Nat)) (b : Int) (g : Int → Option (Int × List Nat)) : Option (Int × List Nat) := match g (bd b o) with
  | none => o
  | some q => some q
def tl5 (ch : Nat → Int → Option (Int × List Nat)) (b : Int) : Nat → Option (Int × List Nat)
  | 0 => none
  | d + 1 => sq (tl5 ch b d) b (ch d)
def fil (b : Int) (o : Option (Int × List Nat)) : Option (Int × List Nat) := match o with
  | none => none
  | some q => if q.1 < b then some q else none
def lft (af tk : Nat) : Int := (if 0 < af ∧ tk % 2 = 0 then 4 else 0) + (if 1 < af ∧ tk / 2 % 2 = 0 then 4 else 0) + (if 2 < af ∧ tk / 4 % 2 = 0 then 4 else 0) + (if 3 < af ∧ tk / 8 % 2 = 0 then 4 else 0)
def inc (af : Nat) (tc : Nat → Nat → Int) (hc : Nat → Bool) (i d tk : Nat) : Option Int :=
  if d = 4 then (if hc i = true then some 7 else none) else if d < af ∧ tk / 2 ^ d % 2 = 0 ∧ 0 ≤ tc d i then some (tc d i + if d = i then 0 else 1) else none
def upt (tk d : Nat) : Nat := if d = 4 then tk else tk + 2 ^ d
def tf (af : Nat) (tc : Nat → Nat → Int) (hc : Nat → Bool) : Nat → Nat → Nat → Int → List Nat → Int → Option (Int × List Nat)
  | 0, _, tk, sf, pre, b => if sf + lft af tk < b then some (sf + lft af tk, pre) else none
  | r + 1, i, tk, sf, pre, b => tl5 (fun d b => match inc af tc hc i d tk with
    | none => none
    | some x => tf af tc hc r (i + 1) (upt tk d) (sf + x) (pre ++ [d]) b) b 5
/-- what is under one place -/
def chd (af : Nat) (tc : Nat → Nat → Int) (hc : Nat → Bool) (r i tk : Nat) (sf : Int) (pre : List Nat) (d : Nat) (b : Int) : Option (Int × List Nat) := match inc af tc hc i d tk with
  | none => none
  | some x => tf af tc hc r (i + 1) (upt tk d) (sf + x) (pre ++ [d]) b
theorem sq_none {o : Option (Int × List Nat)} {b : Int} {g : Int → Option (Int × List Nat)} (h : g (bd b o) = none) : sq o b g = o := by
  unfold sq; rw [h]
theorem sq_some {o : Option (Int × List Nat)} {b : Int} {g : Int → Option (Int × List Nat)} {q : Int × List Nat} (h : g (bd b o) = some q) : sq o b g = some q := by
  unfold sq; rw [h]
theorem lft_nn (af tk : Nat) : 0 ≤ lft af tk ∧ lft af tk ≤ 16 := by
  unfold lft
  constructor <;> (repeat' split) <;> omega
section FIT
variable {af : Nat} {tc : Nat → Nat → Int} {hc : Nat → Bool}
theorem tf_s {r i tk : Nat} {sf b : Int} {pre : List Nat} : tf af tc hc (r + 1) i tk sf pre b = tl5 (chd af tc hc r i tk sf pre) b 5 := rfl
theorem inc_nn {i d tk : Nat} {x : Int} (h : inc af tc hc i d tk = some x) : 0 ≤ x := by
  unfold inc at h
  split at h
  · split at h
    · cases h; decide
    · cases h
  · split at h
    · rename_i g
      have := g.2.2
      cases h
      split <;> omega
    · cases h
theorem inc_le {i d tk : Nat} {x : Int} (ht : ∀ d i, tc d i ≤ 300) (h : inc af tc hc i d tk = some x) : x ≤ 301 := by
  unfold inc at h
  split at h
  · split at h
    · cases h; decide
    · cases h
  · split at h
    · have := ht d i
      cases h
      split <;> omega
    · cases h
theorem tl5_all_none {ch : Nat → Int → Option (Int × List Nat)} {b : Int} : ∀ n, (∀ d, d < n → ch d b = none) → tl5 ch b n = none := by
  intro n
  induction n with
  | zero => intro _; rfl
  | succ n ih =>
    intro h
    have e := ih (fun d hd => h d (by omega))
    show sq (tl5 ch b n) b (ch n) = none
    rw [e]
    exact sq_none (h n (by omega))
/-- what isn't cheaper now will never be -/
theorem tf_prune : ∀ (r i tk : Nat) (sf b : Int) (pre : List Nat), b ≤ sf → tf af tc hc r i tk sf pre b = none := by
  intro r
  induction r with
  | zero =>
    intro i tk sf b pre h
    have := lft_nn af tk
    exact if_neg (by omega)
  | succ r ih =>
    intro i tk sf b pre h
    rw [tf_s]
    refine tl5_all_none 5 (fun d _ => ?_)
    unfold chd
    cases hx : inc af tc hc i d tk with
    | none => rfl
    | some x =>
      have := inc_nn hx
      exact ih _ _ _ _ _ (by omega)
/-- bounds -/
def Bo (g : Int → Option (Int × List Nat)) (M : Int) : Prop := ∀ b q, g b = some q → q.1 < b ∧ q.1 ≤ M
theorem sq_bo {o : Option (Int × List Nat)} {b M : Int} {g : Int → Option (Int × List Nat)} (hg : Bo g M) (ho : ∀ q, o = some q → q.1 < b ∧ q.1 ≤ M) : ∀ q, sq o b g = some q → q.1 < b ∧ q.1 ≤ M := by
  intro q h
  cases hx : g (bd b o) with
  | none => rw [sq_none hx] at h; exact ho q h
  | some p =>
    rw [sq_some hx] at h
    cases h
    have h1 := hg _ _ hx
    cases o with
    | none => exact h1
    | some p0 =>
      have h2 := ho p0 rfl
      have h3 : q.1 < p0.1 := h1.1
      exact ⟨by omega, h1.2⟩
theorem tl5_bo {ch : Nat → Int → Option (Int × List Nat)} {M : Int} (h : ∀ d, Bo (ch d) M) (b : Int) : ∀ n q, tl5 ch b n = some q → q.1 < b ∧ q.1 ≤ M := by
  intro n
  induction n with
  | zero => intro q h; cases h
  | succ n ih => intro q hq; exact sq_bo (h n) ih q hq
theorem tf_bo (ht : ∀ d i, tc d i ≤ 300) : ∀ (r i tk : Nat) (sf : Int) (pre : List Nat), Bo (tf af tc hc r i tk sf pre) (sf + 301 * r + 16) := by
  intro r
  induction r with
  | zero =>
    intro i tk sf pre b q h
    have := lft_nn af tk
    have h : (if sf + lft af tk < b then some (sf + lft af tk, pre) else none) = some q := h
    split at h
    · cases h
      constructor
      · assumption
      · show sf + lft af tk ≤ _
        omega
    · cases h
  | succ r ih =>
    intro i tk sf pre b q h
    rw [tf_s] at h
    refine tl5_bo (M := sf + 301 * ((r + 1 : Nat) : Int) + 16) (fun d b q h => ?_) b 5 q h
    unfold chd at h
    cases hx : inc af tc hc i d tk with
    | none => rw [hx] at h; cases h
    | some x =>
      rw [hx] at h
      have h1 := ih _ _ _ _ _ _ h
      have h2 := inc_le ht hx
      exact ⟨h1.1, by omega⟩
/-- a lower bound keeps what is below it -/
def Fi1 (g : Int → Option (Int × List Nat)) : Prop := (∀ b q, g b = some q → q.1 < b) ∧ ∀ b B, b ≤ B → g b = fil b (g B)
theorem fil_some {b : Int} {q : Int × List Nat} (h : q.1 < b) : fil b (some q) = some q := if_pos h
theorem fil_not {b : Int} {q : Int × List Nat} (h : ¬ q.1 < b) : fil b (some q) = none := if_neg h
theorem sq_fil {o O : Option (Int × List Nat)} {b B : Int} {g : Int → Option (Int × List Nat)} (hg : Fi1 g) (hb : b ≤ B) (hO : ∀ q, O = some q → q.1 < B) (ho : o = fil b O) : sq o b g = fil b (sq O B g) := by
  cases O with
  | none =>
    have ho : o = none := ho
    subst ho
    have e1 : sq none b g = g b := by
      cases hx : g b with
      | none => exact sq_none hx
      | some q => exact sq_some hx
    have e2 : sq none B g = g B := by
      cases hx : g B with
      | none => exact sq_none hx
      | some q => exact sq_some hx
    rw [e1, e2]
    exact hg.2 b B hb
  | some p =>
    have hp : p.1 < B := hO p rfl
    have gz := hg.2 p.1 B (by omega)
    by_cases hz : p.1 < b
    · rw [fil_some hz] at ho
      subst ho
      cases hx : g p.1 with
      | none => rw [sq_none (o := some p) (b := b) hx, sq_none (o := some p) (b := B) hx, fil_some hz]
      | some q =>
        have := hg.1 _ _ hx
        rw [sq_some (o := some p) (b := b) hx, sq_some (o := some p) (b := B) hx, fil_some (by omega)]
    · rw [fil_not hz] at ho
      subst ho
      have e1 : sq none b g = g b := by
        cases hx : g b with
        | none => exact sq_none hx
        | some q => exact sq_some hx
      rw [e1, hg.2 b B hb]
      cases hB : g B with
      | none =>
        rw [hB] at gz
        have gz : g p.1 = none := gz
        rw [sq_none (o := some p) (b := B) gz, fil_not hz]
        rfl
      | some q =>
        rw [hB] at gz
        by_cases hq : q.1 < p.1
        · rw [fil_some hq] at gz
          rw [sq_some (o := some p) (b := B) gz]
        · rw [fil_not hq] at gz
          rw [sq_none (o := some p) (b := B) gz, fil_not hz, fil_not (by omega)]
theorem tl5_lt {ch : Nat → Int → Option (Int × List Nat)} (h : ∀ d, Fi1 (ch d)) (b : Int) : ∀ n q, tl5 ch b n = some q → q.1 < b := by
  intro n
  induction n with
  | zero => intro q h; cases h
  | succ n ih =>
    intro q hq
    have hq : sq (tl5 ch b n) b (ch n) = some q := hq
    cases hx : ch n (bd b (tl5 ch b n)) with
    | none => rw [sq_none hx] at hq; exact ih q hq
    | some p =>
      rw [sq_some hx] at hq
      cases hq
      have h1 := (h n).1 _ _ hx
      cases ho : tl5 ch b n with
      | none => rw [ho] at h1; exact h1
      | some p0 =>
        rw [ho] at h1
        have h2 := ih p0 ho
        have h3 : q.1 < p0.1 := h1
        omega
theorem tl5_fil {ch : Nat → Int → Option (Int × List Nat)} (h : ∀ d, Fi1 (ch d)) {b B : Int} (hb : b ≤ B) : ∀ n, tl5 ch b n = fil b (tl5 ch B n) := by
  intro n
  induction n with
  | zero => rfl
  | succ n ih => exact sq_fil (h n) hb (tl5_lt h B n) ih
theorem tf_fil : ∀ (r i tk : Nat) (sf : Int) (pre : List Nat), Fi1 (tf af tc hc r i tk sf pre) := by
  intro r
  induction r with
  | zero =>
    intro i tk sf pre
    constructor
    · intro b q h
      have h : (if sf + lft af tk < b then some (sf + lft af tk, pre) else none) = some q := h
      split at h
      · cases h; assumption
      · cases h
    · intro b B hb
      show (if sf + lft af tk < b then some (sf + lft af tk, pre) else none) = fil b (if sf + lft af tk < B then some (sf + lft af tk, pre) else none)
      by_cases h : sf + lft af tk < b
      · rw [if_pos h, if_pos (by omega)]
        exact (fil_some h).symm
      · rw [if_neg h]
        by_cases h2 : sf + lft af tk < B
        · rw [if_pos h2]
          exact (fil_not h).symm
        · rw [if_neg h2]; rfl
  | succ r ih =>
    intro i tk sf pre
    have hc1 : ∀ d, Fi1 (chd af tc hc r i tk sf pre d) := fun d => by
      unfold chd
      cases hx : inc af tc hc i d tk with
      | none => exact ⟨fun b q h => (by cases h), fun b B _ => rfl⟩
      | some x => exact ih _ _ _ _
    exact ⟨fun b q h => tl5_lt hc1 b 5 q h, fun b B hb => tl5_fil hc1 hb 5⟩
/-- one row after another -/
def ct (af : Nat) (tc : Nat → Nat → Int) (hc : Nat → Bool) : Nat → Nat → Int → List Nat → Option Int
  | _, tk, sf, [] => some (sf + lft af tk)
  | i, tk, sf, d :: l => match inc af tc hc i d tk with
    | none => none
    | some x => ct af tc hc (i + 1) (upt tk d) (sf + x) l
def ps (af : Nat) (tc : Nat → Nat → Int) (hc : Nat → Bool) : Nat → Nat → Int → List Nat → Option (Nat × Int)
  | _, tk, sf, [] => some (tk, sf)
  | i, tk, sf, d :: l => match inc af tc hc i d tk with
    | none => none
    | some x => ps af tc hc (i + 1) (upt tk d) (sf + x) l
theorem ct_app : ∀ (l m : List Nat) (i tk : Nat) (sf : Int), ct af tc hc i tk sf (l ++ m) = match ps af tc hc i tk sf l with
    | none => none
    | some u => ct af tc hc (i + l.length) u.1 u.2 m := by
  intro l
  induction l with
  | nil => intro m i tk sf; rfl
  | cons d l ih =>
    intro m i tk sf
    simp only [List.cons_append, ct, ps]
    cases hx : inc af tc hc i d tk with
    | none => rfl
    | some x =>
      simp only [ih]
      rw [List.length_cons, show i + 1 + l.length = i + (l.length + 1) by omega]
theorem ps_app : ∀ (l m : List Nat) (i tk : Nat) (sf : Int), ps af tc hc i tk sf (l ++ m) = match ps af tc hc i tk sf l with
    | none => none
    | some u => ps af tc hc (i + l.length) u.1 u.2 m := by
  intro l
  induction l with
  | nil => intro m i tk sf; rfl
  | cons d l ih =>
    intro m i tk sf
    simp only [List.cons_append, ps]
    cases hx : inc af tc hc i d tk with
    | none => rfl
    | some x =>
      simp only [ih]
      rw [List.length_cons, show i + 1 + l.length = i + (l.length + 1) by omega]
def mf (af : Nat) (tc : Nat → Nat → Int) (hc : Nat → Bool) (st : Int) : Nat → List Nat → Int → Option (Int × List Nat)
  | 0, pre, b => match ct af tc hc 0 0 st pre with
    | none => none
    | some z => if z < b then some (z, pre) else none
  | r + 1, pre, b => tl5 (fun d b => mf af tc hc st r (pre ++ [d]) b) b 5
theorem mf_tf {st : Int} : ∀ (r : Nat) (pre : List Nat) (b : Int), mf af tc hc st r pre b = match ps af tc hc 0 0 st pre with
    | none => none
    | some u => tf af tc hc r pre.length u.1 u.2 pre b := by
  intro r
  induction r with
  | zero =>
    intro pre b
    have e := ct_app (af := af) (tc := tc) (hc := hc) pre [] 0 0 st
    rw [List.append_nil] at e
    simp only [mf, e]
    cases hx : ps af tc hc 0 0 st pre with
    | none => rfl
    | some u => rfl
  | succ r ih =>
    intro pre b
    have e : (fun d b => mf af tc hc st r (pre ++ [d]) b) = fun d b => match ps af tc hc 0 0 st pre with
      | none => none
      | some u => chd af tc hc r pre.length u.1 u.2 pre d b := by
      funext d b
      rw [ih, ps_app]
      cases hx : ps af tc hc 0 0 st pre with
      | none => rfl
      | some u =>
        simp only [ps, Nat.zero_add, chd]
        cases hy : inc af tc hc pre.length d u.1 with
        | none => rfl
        | some x => simp only [List.length_append, List.length_cons, List.length_nil, Nat.zero_add]
    show tl5 (fun d b => mf af tc hc st r (pre ++ [d]) b) b 5 = _
    rw [e]
    cases hx : ps af tc hc 0 0 st pre with
    | none => exact tl5_all_none 5 (fun _ _ => rfl)
    | some u => rfl
theorem mf_top {st b : Int} {n : Nat} : mf af tc hc st n [] b = tf af tc hc n 0 0 st [] b := mf_tf n [] b
end FIT
