/-! all that fits rest on, alike in the class and in the model -/
theorem foM_congr {f g : Nat → Option (Int × List Nat)} : ∀ (n m : Nat) (o : Option (Int × Nat × List Nat)), (∀ k, m ≤ k → k < m + n → f k = g k) → foM f n m o = foM g n m o := by
  intro n
  induction n with
  | zero => intro m o _; rfl
  | succ n ih =>
    intro m o h
    show foM f n (m + 1) (stM o m (f m)) = foM g n (m + 1) (stM o m (g m))
    rw [h m (Nat.le_refl _) (by omega)]
    exact ih (m + 1) _ (fun k h1 h2 => h k (by omega) (by omega))
theorem foM_lt {f : Nat → Option (Int × List Nat)} : ∀ (n m : Nat) (o : Option (Int × Nat × List Nat)) (q : Int × Nat × List Nat), foM f n m o = some q → o = some q ∨ (m ≤ q.2.1 ∧ q.2.1 < m + n) := by
  intro n
  induction n with
  | zero => intro m o q h; exact Or.inl h
  | succ n ih =>
    intro m o q h
    rcases ih (m + 1) _ q h with h1 | ⟨h1, h2⟩
    · cases hx : f m with
      | none => rw [hx] at h1; exact Or.inl h1
      | some p =>
        rw [hx] at h1
        have h1 : (if p.1 < bo3 1000000 o then some (p.1, m, p.2) else o) = some q := h1
        split at h1
        · cases h1
          exact Or.inr ⟨Nat.le_refl _, by show m < m + (n + 1); omega⟩
        · exact Or.inl h1
    · exact Or.inr ⟨by omega, by omega⟩
def RF (L : List Nat) (C : Nat → Nat) (x mo : Nat) (u : hU) : Prop := RR L C x mo u ∧ RM L C x mo u ∧ RA L C x mo u ∧ RC L C x mo u
theorem RF.sm {L : List Nat} {C : Nat → Nat} {x mo : Nat} {ms : List Nat} {u v : hU} (rel : RF L C x mo u) (oR : OkR L C v.2.2) (s : Sm C ms u v) (hm : (codesR ++ (codesM ++ ([641, 0, 1, 721, 722, 2560, 5056] ++ [642, 128, 129, 723, 724, 2624, 2688, 5120, 5184]))).all (fun z => !ms.contains z) = true) : RF L C x mo v := by
  rw [List.all_append, List.all_append, List.all_append, Bool.and_eq_true, Bool.and_eq_true, Bool.and_eq_true] at hm
  exact ⟨RR.sm rel.1 oR s hm.1, RM.sm rel.2.1 oR s hm.2.1, RA.sm rel.2.2.1 oR s hm.2.2.1, RC.sm rel.2.2.2 oR s hm.2.2.2⟩
theorem foM_p {f : Nat → Option (Int × List Nat)} {P : Int → Prop} : ∀ (n m : Nat) (o : Option (Int × Nat × List Nat)), (∀ k, m ≤ k → k < m + n → ∀ q, f k = some q → P q.1) → (∀ q, o = some q → P q.1) → ∀ q, foM f n m o = some q → P q.1 := by
  intro n
  induction n with
  | zero => intro m o _ ho q h; exact ho q h
  | succ n ih =>
    intro m o hf ho q h
    refine ih (m + 1) _ (fun k h1 h2 => hf k (by omega) (by omega)) (fun q hq => ?_) q h
    cases hx : f m with
    | none => rw [hx] at hq; exact ho q hq
    | some p =>
      rw [hx] at hq
      have hq : (if p.1 < bo3 1000000 o then some (p.1, m, p.2) else o) = some q := hq
      split at hq
      · cases hq
        exact hf m (Nat.le_refl _) (by omega) p hx
      · exact ho q hq
theorem tf_lo {af r i tk : Nat} {tc : Nat → Nat → Int} {hc : Nat → Bool} {sf b : Int} {pre : List Nat} {q : Int × List Nat} (h : tf af tc hc r i tk sf pre b = some q) : sf ≤ q.1 := by
  by_cases hb : b ≤ sf
  · rw [tf_prune _ _ _ _ _ _ hb] at h; cases h
  · have e := (tf_fil (af := af) (tc := tc) (hc := hc) r i tk sf pre).2 sf b (by omega)
    rw [tf_prune _ _ _ _ _ _ (Int.le_refl _), h] at e
    by_cases hq : q.1 < sf
    · rw [fil_some hq] at e; cases e
    · omega
/-- what the class finds for a member f in a shape b -/
noncomputable def oC (fi f b : Nat) (I : hI) (J : hJ) (R : hR) : Option (Int × Nat × List Nat) :=
  foM (fun m => svC ((R fi 1).getD 0) ((R fi 0).getD 0) ((R ((R fi 2).getD 0) 0).getD 0) f ((R f 3).getD 0) ((R ((R b 0).getD 0) m).getD 0) ((R ((R ((R b 0).getD 0) m).getD 0) 3).getD 0) (I f 2).toNatClampNeg (I ((R ((R b 0).getD 0) m).getD 0) 2).toNatClampNeg I J R) (I b 1).toNatClampNeg 0 none
/-- roles that ways and fits write to, in the class and in the model -/
def exC : List Nat := [3, 43, 44, 9, 45, 46, 47, 1, 52]
def exW : List Nat := [11, 93, 94, 95, 96, 97, 98]
def exK : List Nat := [11, 85, 86, 87, 88, 89, 93, 94, 95, 96, 97, 98, 3, 43, 44, 9, 45, 46, 47, 1, 52]
/-- roles whose ints a call may have written to before a fit is found -/
def exI : List Nat := [1, 9, 45, 46, 47, 52, 3, 43, 44]
theorem exCK : ∀ a ∈ exC, a ∈ exK := by decide
theorem exWK : ∀ a ∈ exW, a ∈ exK := by decide
/-- a member's fit by a shape, in the class and in the model -/
def FitB (I K : hI) (J : hJ) (R : hR) (mo fi f b s y10 F t p pl bp fp : Nat) : Prop :=
  ∃ (o : Option (Int × Nat × List Nat)) (acs acm : Nat → Nat), o = oC fi f b I J R ∧
    (∀ q, o = some q → (0 ≤ q.1 ∧ q.1 ≤ 1522) ∧ (q.2.1 : Int) < (I b 1).toInt ∧ q.2.1 < 6 ∧ acs q.2.1 = acm q.2.1 ∧ acs q.2.1 ≤ 4 ∧ (∀ mab c, R b 0 = some mab → R mab q.2.1 = some c → (I c 2).toInt = acs q.2.1) ∧ (K y10 (6 * s + q.2.1)).toInt = acm q.2.1 ∧ q.2.2.length = acs q.2.1 ∧ ∀ j, j < acs q.2.1 → q.2.2.getD j 0 ≤ 4) ∧
    (∀ Ia : hI, Nea fi t p I Ia → (∀ k, k ≠ 4 → k ≠ 5 → Ia fi k = I fi k) → ∃ Ic, F_X3_find fi f b Ia J R = (if o.isSome = true then 1 else 0, (Ic, J, R)) ∧ Cf fi t p acs I Ic o) ∧
    (∀ (J' : hJ) (Ka : hI) (xF xs : Int32), xF.toInt = F → xs.toInt = s → (∀ z, z ≠ mo → z ≠ pl → z ≠ bp → z ≠ fp → Ka z = K z) → (∀ k, k ≠ 40 → k ≠ 41 → k ≠ 42 → Ka mo k = K mo k) → ∃ Im, F_X11_findFit mo xF xs Ka J' R = (if o.isSome = true then 1 else 0, (Im, J', R)) ∧ Mf mo pl bp fp acm K Im o)
