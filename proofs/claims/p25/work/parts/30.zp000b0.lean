/-! the functions, method by method, as closed forms -/
theorem ite1 {c : Prop} [Decidable c] : ((if c then (1 : Int32) else 0) = 1) = c := by
  by_cases h : c
  · rw [if_pos h]; simp [h]
  · rw [if_neg h]; simp [h]
theorem ite0 {c : Prop} [Decidable c] : ((if c then (1 : Int32) else 0) = 0) = ¬ c := by
  by_cases h : c
  · rw [if_pos h]; simp [h]
  · rw [if_neg h]; simp [h]
theorem ite11 {c : Prop} [Decidable c] : (if (if c then (1 : Int32) else 0) = 1 then (1 : Int32) else 0) = if c then 1 else 0 := by simp only [ite1]
theorem isW {a b c : Int32} : F_X10_isWithin a b c = if b.toInt ≤ a.toInt ∧ a.toInt ≤ c.toInt then 1 else 0 := by
  unfold F_X10_isWithin
  by_cases h1 : a < b
  · have := Rg_lt h1
    rw [if_pos h1, if_neg (by omega)]
  · have h3 := Rg_nlt h1
    rw [if_neg h1]
    by_cases h2 : c < a
    · have := Rg_lt h2
      rw [if_pos h2, if_neg (by omega)]
    · have := Rg_nlt h2
      rw [if_neg h2, if_pos (by omega)]
theorem inM {a b c : Int64} : F_X11_in a b c = if b.toInt ≤ a.toInt ∧ a.toInt ≤ c.toInt then 1 else 0 := by
  simp only [F_X11_in, nm]
  by_cases h1 : lg_cmp a b < 0
  · have := lc_lt rfl h1
    rw [if_pos h1, if_neg (by omega)]
  · have := lc_nlt rfl h1
    rw [if_neg h1]
    by_cases h2 : 0 < lg_cmp a c
    · have := lc_gt rfl h2
      rw [if_pos h2, if_neg (by omega)]
    · have := lc_ngt rfl h2
      rw [if_neg h2, if_pos (by omega)]
theorem cI0 : Int32.toInt 0 = 0 := by decide
theorem cI1 : Int32.toInt 1 = 1 := by decide
theorem cI2 : Int32.toInt 2 = 2 := by decide
theorem cI3 : Int32.toInt 3 = 3 := by decide
theorem cI4 : Int32.toInt 4 = 4 := by decide
theorem cI5 : Int32.toInt 5 = 5 := by decide
theorem cI6 : Int32.toInt 6 = 6 := by decide
theorem cI7 : Int32.toInt 7 = 7 := by decide
theorem cI8 : Int32.toInt 8 = 8 := by decide
theorem cI9 : Int32.toInt 9 = 9 := by decide
theorem cI10 : Int32.toInt 10 = 10 := by decide
theorem cI30 : Int32.toInt 30 = 30 := by decide
theorem cI99 : Int32.toInt 99 = 99 := by decide
theorem cI100 : Int32.toInt 100 = 100 := by decide
theorem cIm1 : Int32.toInt (-1) = -1 := by decide
theorem cIm1000 : Int32.toInt (-1000) = -1000 := by decide
theorem cI1000 : Int32.toInt 1000 = 1000 := by decide
theorem cJ0 : Int64.toInt 0 = 0 := by decide
theorem cJ1 : Int64.toInt 1 = 1 := by decide
theorem cJ2 : Int64.toInt 2 = 2 := by decide
theorem cJ3 : Int64.toInt 3 = 3 := by decide
theorem cJ6 : Int64.toInt 6 = 6 := by decide
theorem cJ9 : Int64.toInt 9 = 9 := by decide
theorem cJ19 : Int64.toInt 19 = 19 := by decide
theorem cJ99 : Int64.toInt 99 = 99 := by decide
theorem cJm1 : Int64.toInt (-1) = -1 := by decide
theorem cJm1000 : Int64.toInt (-1000) = -1000 := by decide
theorem cJ1000 : Int64.toInt 1000 = 1000 := by decide
theorem add1 {x : Int32} {b : Int} (h : x.toInt ≤ b) (hb : b < 2147483647) : (x + 1).toInt = x.toInt + 1 := (Rg_add (x := x) (y := 1) (a := -2147483648) (b := b) (c := 1) (d := 1) (a' := -2147483647) (b' := b + 1) ⟨(Rg_any x).1, h⟩ ⟨by decide, by decide⟩ ⟨⟨by omega, by omega⟩, by omega, by omega⟩).1
theorem sub1 {x : Int32} {b : Int} (h : b ≤ x.toInt) (hb : -2147483648 < b) : (x - 1).toInt = x.toInt - 1 := (Rg_sub (x := x) (y := 1) (a := b) (b := 2147483647) (c := 1) (d := 1) (a' := b - 1) (b' := 2147483646) ⟨h, (Rg_any x).2⟩ ⟨by decide, by decide⟩ ⟨⟨by omega, by omega⟩, by omega, by omega⟩).1
theorem addsub1 {x : Int32} (h : x.toInt < 2147483647) : x + 1 - 1 = x := by
  have h1 := add1 (x := x) (b := 2147483646) (by omega) (by omega)
  have h2 := sub1 (x := x + 1) (b := -2147483647) (by have := (Rg_any x).1; omega) (by omega)
  exact Int32.toInt_inj.mp (by omega)
theorem nat_of {x : Int32} (h : 0 ≤ x.toInt) : (x.toNatClampNeg : Int) = x.toInt := by
  show (x.toInt.toNat : Int) = _
  omega
/-- filling an array -/
def fillF (I : hI) (b n : Nat) (v : Int32) : hI := fun c => if c = b then (fun j => if j < n then v else I b j) else I c
theorem fillF_0 {I : hI} {b : Nat} {v : Int32} : fillF I b 0 v = I := by
  funext c
  unfold fillF
  by_cases h : c = b
  · rw [if_pos h]; subst h; funext j; simp
  · rw [if_neg h]
theorem fillF_s {I : hI} {b k : Nat} {v : Int32} : u2 (fillF I b k v) b k v = fillF I b (k + 1) v := by
  funext c
  unfold u2
  by_cases h : c = b
  · subst h
    simp only [fillF, if_pos]
    funext j
    by_cases hj : j = k
    · subst hj; simp
    · rw [if_neg hj]
      by_cases h2 : j < k
      · rw [if_pos h2, if_pos (by omega)]
      · rw [if_neg h2, if_neg (by omega)]
  · simp only [fillF, if_neg h]
theorem fillF_ne {I : hI} {b n c : Nat} {v : Int32} (h : c ≠ b) : fillF I b n v c = I c := by unfold fillF; rw [if_neg h]
theorem fillF_at {I : hI} {b n j : Nat} {v : Int32} (h : j < n) : fillF I b n v b j = v := by unfold fillF; rw [if_pos rfl, if_pos h]
theorem fill_55_l {b : Nat} {v : Int32} {I : hI} {J : hJ} {R : hR} : ∀ (f k : Nat) (x : Int32), x.toInt = k → k ≤ 4 → 4 < f + k → F_J7_fill_55_5 b v f (fillF I b k v) J R x = (fillF I b 4 v, J, R) := by
  intro f
  induction f with
  | zero => intro k x _ h1 h2; omega
  | succ f ih =>
    intro k x hx h1 h2
    rw [F_J7_fill_55_5_s]
    simp only [B_J7_fill_55_5, nm]
    have cN : Int32.toInt 4 = 4 := by decide
    by_cases h : (4 : Int32) ≤ x
    · have h3 := Rg_le h
      have e : k = 4 := by omega
      rw [if_pos h, e]
    · have h3 := Rg_nle h
      rw [if_neg h, clamp_toInt hx, fillF_s]
      exact ih (k + 1) (x + 1) (by rw [add1 (b := 4) (by omega) (by omega), hx]; omega) (by omega) (by omega)
theorem fill_55 {b : Nat} {v : Int32} {I : hI} {J : hJ} {R : hR} : F_J7_fill_55 b v I J R = (fillF I b 4 v, J, R) := by
  have := fill_55_l (b := b) (v := v) (I := I) (J := J) (R := R) (4 + 1) 0 0 (by decide) (by omega) (by omega)
  rw [fillF_0] at this
  exact this
