/-! the rows of places that are found have the right length -/
def LnO (n : Nat) (o : Option (Int × List Nat)) : Prop := ∀ q, o = some q → q.2.length = n ∧ ∀ j, j < n → q.2.getD j 0 ≤ 4
theorem LnO.sq {n : Nat} {o : Option (Int × List Nat)} {b : Int} {g : Int → Option (Int × List Nat)} (h1 : LnO n o) (h2 : ∀ b, LnO n (g b)) : LnO n (sq o b g) := by
  intro q h
  cases hx : g (bd b o) with
  | none => rw [sq_none hx] at h; exact h1 q h
  | some p =>
    rw [sq_some hx] at h
    cases h
    exact h2 _ _ hx
theorem LnO.tl {n : Nat} {ch : Nat → Int → Option (Int × List Nat)} {b : Int} : ∀ m, (∀ d, d < m → ∀ b, LnO n (ch d b)) → LnO n (tl5 ch b m) := by
  intro m
  induction m with
  | zero => intro _ q h; cases h
  | succ m ih => intro h; exact LnO.sq (ih (fun d hd => h d (by omega))) (h m (by omega))
theorem tf_ln {af : Nat} {tc : Nat → Nat → Int} {hc : Nat → Bool} : ∀ (r i tk : Nat) (sf b : Int) (pre : List Nat), (∀ j, j < pre.length → pre.getD j 0 ≤ 4) → LnO (pre.length + r) (tf af tc hc r i tk sf pre b) := by
  intro r
  induction r with
  | zero =>
    intro i tk sf b pre hp q h
    have h : (if sf + lft af tk < b then some (sf + lft af tk, pre) else none) = some q := h
    split at h
    · cases h
      exact ⟨rfl, hp⟩
    · cases h
  | succ r ih =>
    intro i tk sf b pre hp
    rw [tf_s]
    refine LnO.tl 5 (fun d hd b q h => ?_)
    unfold chd at h
    cases hx : inc af tc hc i d tk with
    | none => rw [hx] at h; cases h
    | some x =>
      rw [hx] at h
      have e : (pre ++ [d]).length = pre.length + 1 := by rw [List.length_append]; rfl
      have := ih (i + 1) (upt tk d) (sf + x) b (pre ++ [d]) (fun j hj => by
        by_cases z : j = pre.length
        · rw [z, gd_r]; omega
        · rw [gd_l (by omega)]; exact hp j (by omega)) q h
      rw [e] at this
      rw [show pre.length + (r + 1) = pre.length + 1 + r by omega]
      exact this
theorem foM_ln {f : Nat → Option (Int × List Nat)} {acs : Nat → Nat} : ∀ (n m : Nat) (o : Option (Int × Nat × List Nat)), (∀ k, m ≤ k → k < m + n → LnO (acs k) (f k)) → (∀ q, o = some q → q.2.2.length = acs q.2.1 ∧ ∀ j, j < acs q.2.1 → q.2.2.getD j 0 ≤ 4) → ∀ q, foM f n m o = some q → q.2.2.length = acs q.2.1 ∧ ∀ j, j < acs q.2.1 → q.2.2.getD j 0 ≤ 4 := by
  intro n
  induction n with
  | zero => intro m o _ ho q h; exact ho q h
  | succ n ih =>
    intro m o hf ho q h
    refine ih (m + 1) _ (fun k h1 h2 => hf k (by omega) (by omega)) (fun q hq => ?_) q h
    cases hx : f m with
    | none => rw [hx] at hq; exact ho q hq
    | some p =>
      rw [hx] at hq
      have hq : (if p.1 < bo3 1000000 o then some (p.1, m, p.2) else o) = some q := hq
      split at hq
      · cases hq
        exact hf m (Nat.le_refl _) (by omega) p hx
      · exact ho q hq
