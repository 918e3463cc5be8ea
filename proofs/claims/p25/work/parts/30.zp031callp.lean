/-! a call, as a function of what it reads -/
def fE (ev : Nat → Nat ⊕ Int64) : Nat → Option Nat
  | 0 => none
  | n + 1 => match fE ev n with
    | some e => some e
    | none => match ev n with
      | Sum.inl e => some e
      | Sum.inr _ => none
def vE (ev : Nat → Nat ⊕ Int64) (i : Nat) : Int64 := match ev i with
  | Sum.inr z => z
  | Sum.inl _ => 0
theorem vE_r {ev : Nat → Nat ⊕ Int64} {i : Nat} {z : Int64} (h : ev i = Sum.inr z) : vE ev i = z := by unfold vE; rw [h]
theorem fE_all {ev : Nat → Nat ⊕ Int64} : ∀ n, (∀ i, i < n → ∃ z, ev i = Sum.inr z) → fE ev n = none := by
  intro n
  induction n with
  | zero => intro _; rfl
  | succ n ih =>
    intro h
    obtain ⟨z, hz⟩ := h n (by omega)
    simp only [fE, ih (fun i hi => h i (by omega)), hz]
theorem fE_first {ev : Nat → Nat ⊕ Int64} {i e : Nat} (h1 : ∀ j, j < i → ∃ z, ev j = Sum.inr z) (h2 : ev i = Sum.inl e) : ∀ n, i < n → fE ev n = some e := by
  intro n
  induction n with
  | zero => intro h; omega
  | succ n ih =>
    intro h
    by_cases q : i = n
    · subst q
      simp only [fE, fE_all i h1, h2]
    · simp only [fE, ih (by omega)]
theorem fE_congr {ev ev' : Nat → Nat ⊕ Int64} : ∀ n, (∀ i, i < n → ev' i = ev i) → fE ev' n = fE ev n := by
  intro n
  induction n with
  | zero => intro _; rfl
  | succ n ih =>
    intro h
    simp only [fE, ih (fun i hi => h i (by omega)), h n (by omega)]
section CHAIN
variable (ar : Nat → Nat) (so : Nat → Nat → Int32) (re : Nat → Int32) (pl : Nat → Nat → Nat) (cv : Int32 → Int32 → Int64 → Nat ⊕ Int64) (kv : Int32 → Int64)
def evA (k : Nat) (a : Nat → Int64) (i : Nat) : Nat ⊕ Int64 := if pl k i = 4 then Sum.inr (kv (so (k + 1) i)) else cv (so k (pl k i)) (so (k + 1) i) (a (pl k i))
def runA (h : Nat → Int64) : Nat → Nat ⊕ (Nat → Int64)
  | 0 => Sum.inr h
  | k + 1 => match runA h k with
    | Sum.inl e => Sum.inl e
    | Sum.inr a => match fE (evA so pl cv kv k a) (ar (k + 1)) with
      | some e => Sum.inl e
      | none => Sum.inr (vE (evA so pl cv kv k a))
def backA : Nat → Int64 → Nat ⊕ Int64
  | 0, v => Sum.inr v
  | k + 1, v => match cv (re (k + 1)) (re k) v with
    | Sum.inl e => Sum.inl e
    | Sum.inr z => backA k z
end CHAIN
noncomputable def adds (s v : Int64) : Option Int64 := if F_X10_sumStaysIn64 s v = 0 then none else some (s + v)
noncomputable def sumW (tm : Nat → Option Int64) : Nat → Nat → Int64 → Option Int64
  | 0, _, s => some s
  | r + 1, i, s => match tm i with
    | none => none
    | some v => match adds s v with
      | none => none
      | some z => sumW tm r (i + 1) z
abbrev inR64 (v : Int64) (y : Int32) : Prop := -9223372036854775808 ≤ v.toInt * y.toInt ∧ v.toInt * y.toInt < 9223372036854775808
noncomputable def tmF (a : Nat → Int64) (fac : Nat → Int32) (i : Nat) : Option Int64 := if inR64 (a i) (fac i) then some (a i * (fac i).toInt64) else none
noncomputable def tmW (a : Nat → Int64) (i : Nat) : Option Int64 := some (a i)
noncomputable def addF (part : Int32) (fld s : Int64) : Option Int64 := if part = -1 then some s else adds s fld
noncomputable def wkA (kind part number res : Int32) (ar : Nat) (fac : Nat → Int32) (a : Nat → Int64) (fld : Int64) : Option (Int64 × Option Int64) :=
  if kind.toInt = 0 then (match sumW (tmF a fac) ar 0 number.toInt64 with
    | none => none
    | some s => match addF part fld s with
      | none => none
      | some z => if F_X11_isOf res z = 0 then none else some (z, none))
  else if kind.toInt = 1 then (if F_X11_isOf res fld = 0 then none else some (fld, none))
  else (match sumW (tmW a) ar 0 0 with
    | none => none
    | some s => if F_X11_isOf res fld = 0 then none else some (fld, some s))
theorem sumW_congr {t t' : Nat → Option Int64} : ∀ (r i : Nat) (s : Int64), (∀ j, i ≤ j → j < i + r → t' j = t j) → sumW t' r i s = sumW t r i s := by
  intro r
  induction r with
  | zero => intro i s _; rfl
  | succ r ih =>
    intro i s h
    simp only [sumW]
    rw [h i (Nat.le_refl _) (by omega)]
    cases t i with
    | none => rfl
    | some v =>
      dsimp only
      cases adds s v with
      | none => rfl
      | some z => exact ih (i + 1) z (fun j h1 h2 => h j (by omega) (by omega))
theorem wkA_congr {kind part number number' res : Int32} {ar : Nat} {fac fac' : Nat → Int32} {a a' : Nat → Int64} {fld : Int64} (hn : kind.toInt = 0 → number' = number) (h1 : ∀ i, i < ar → fac' i = fac i) (h2 : ∀ i, i < ar → a' i = a i) : wkA kind part number' res ar fac' a' fld = wkA kind part number res ar fac a fld := by
  unfold wkA
  by_cases h0 : kind.toInt = 0
  · simp only [if_pos h0]
    rw [hn h0, sumW_congr (t := tmF a fac) (t' := tmF a' fac') ar 0 _ (fun j _ hj => by unfold tmF; rw [h1 j (by omega), h2 j (by omega)])]
  · simp only [if_neg h0]
    rw [sumW_congr (t := tmW a) (t' := tmW a') ar 0 _ (fun j _ hj => by unfold tmW; rw [h2 j (by omega)])]
/-- what is kept of the longs -/
def FrJ (P : Nat → Nat → Prop) (J J1 : hJ) : Prop := ∀ c k, ¬ P c k → J1 c k = J c k
section WORKC
variable {I : hI} {R : hR} {kc c a8 fac tf : Nat}
theorem addToE {v : Int64} {J : hJ} : F_X1_addTo kc v I J R = ((if F_X10_sumStaysIn64 (J kc 10) v = 0 then 0 else F_X10_sumStaysIn64 (J kc 10) v), (I, u2 J kc 10 (J kc 10 + v), R)) := by
  simp only [F_X1_addTo, nm]
  by_cases h : F_X10_sumStaysIn64 (J kc 10) v = 0
  · rw [if_pos h, h]
  · rw [if_neg h]
theorem addUp_l (v8 : R kc 8 = some a8) (v7 : R c 7 = some fac) (ne : a8 ≠ kc) {y : Int32} {n : Nat} (hn : (I c 2).toInt = n) (hn4 : n ≤ 4) (hf : ∀ i, i < 4 → -1000 ≤ (I fac i).toInt ∧ (I fac i).toInt ≤ 1000) {J0 : hJ} :
    ∀ (r f i : Nat) (x : Int32) (J : hJ), x.toInt = i → i + r = n → r < f → (∀ z k, ¬ (z = kc ∧ k = 10) → J z k = J0 z k) →
      ∃ J1, (∀ z k, ¬ (z = kc ∧ k = 10) → J1 z k = J0 z k) ∧ ((∃ s, sumW (tmF (J0 a8) (I fac)) r i (J kc 10) = some s ∧ F_X1_addUp_11 kc c y f I J R x = (1, (I, J1, R)) ∧ J1 kc 10 = s) ∨ (sumW (tmF (J0 a8) (I fac)) r i (J kc 10) = none ∧ F_X1_addUp_11 kc c y f I J R x = (0, (I, J1, R)))) := by
  intro r
  induction r with
  | zero =>
    intro f i x J hx hr hf' hJ
    obtain ⟨f', rfl⟩ : ∃ f', f = f' + 1 := ⟨f - 1, by omega⟩
    rw [F_X1_addUp_11_s]
    simp only [B_X1_addUp_11, nm]
    rw [if_pos (by rw [ile, hn, hx]; omega)]
    exact ⟨J, hJ, Or.inl ⟨_, rfl, rfl, rfl⟩⟩
  | succ r ih =>
    intro f i x J hx hr hf' hJ
    obtain ⟨f', rfl⟩ : ∃ f', f = f' + 1 := ⟨f - 1, by omega⟩
    rw [F_X1_addUp_11_s]
    simp only [B_X1_addUp_11, F_X1_addUp_59, nm, nmU, v8, v7, Option.getD_some, clamp_toInt hx]
    rw [if_neg (by rw [ile, hn, hx]; omega)]
    have ea : J a8 i = J0 a8 i := hJ a8 i (fun q => ne q.1)
    have hfi := hf i (by omega)
    have c0 : Int32.toInt 0 = 0 := by decide
    rw [ea, stays hfi.1 hfi.2 (show -1000 ≤ Int32.toInt 0 by decide) (show Int32.toInt 0 ≤ 1000 by decide), c0, Int.add_zero]
    simp only [sumW]
    have hx1 : (x + 1).toInt = ((i + 1 : Nat) : Int) := by rw [add1 (b := 4) (by omega) (by omega), hx]; omega
    by_cases hin : inR64 (J0 a8 i) (I fac i)
    · have et : tmF (J0 a8) (I fac) i = some (J0 a8 i * (I fac i).toInt64) := by unfold tmF; rw [if_pos hin]
      have hin' : -9223372036854775808 ≤ (J0 a8 i).toInt * (I fac i).toInt ∧ (J0 a8 i).toInt * (I fac i).toInt < 9223372036854775808 := hin
      rw [et, if_pos hin', if_neg (show ¬ (1 : Int32) = 0 by decide), addToE]
      dsimp only
      by_cases hs : F_X10_sumStaysIn64 (J kc 10) (J0 a8 i * (I fac i).toInt64) = 0
      · have es : adds (J kc 10) (J0 a8 i * (I fac i).toInt64) = none := by unfold adds; rw [if_pos hs]
        rw [es, if_pos hs, if_pos rfl]
        exact ⟨_, fun z k h => by rw [u2_off h]; exact hJ z k h, Or.inr ⟨rfl, rfl⟩⟩
      · have es : adds (J kc 10) (J0 a8 i * (I fac i).toInt64) = some (J kc 10 + J0 a8 i * (I fac i).toInt64) := by unfold adds; rw [if_neg hs]
        rw [es, if_neg hs, if_neg hs]
        dsimp only
        have := ih f' (i + 1) (x + 1) (u2 J kc 10 (J kc 10 + J0 a8 i * (I fac i).toInt64)) hx1 (by omega) (by omega) (fun z k h => by rw [u2_off h]; exact hJ z k h)
        rw [u2_at] at this
        exact this
    · have et : tmF (J0 a8) (I fac) i = none := by unfold tmF; rw [if_neg hin]
      have hin' : ¬ (-9223372036854775808 ≤ (J0 a8 i).toInt * (I fac i).toInt ∧ (J0 a8 i).toInt * (I fac i).toInt < 9223372036854775808) := hin
      rw [et, if_neg hin', if_pos rfl]
      exact ⟨J, hJ, Or.inr ⟨rfl, rfl⟩⟩
end WORKC
