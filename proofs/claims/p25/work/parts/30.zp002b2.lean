/-! told digits -/
def dgL : Nat → Nat → Nat → Option Nat
  | 0, _, _ => none
  | f + 1, n, k => if k = 0 then some n else if k % 8 = 0 ∨ n = 4 then none else dgL f (n + 1) (k / 8)
/-- what ask() and offer() take -/
abbrev sortsOk (t : Int) : Prop := 0 ≤ t ∧ t % 8 ≠ 7 ∧ (dgL 5 0 (t.toNat / 8)).isSome = true
theorem shr3 {x : Int32} {k : Nat} (h : x.toInt = k) : (x >>> ((3 : Int32) &&& 31)).toInt = ((k / 8 : Nat) : Int) := by
  have := (Rg_shr3 (x := x) (a := 0) (b := 2147483647) (a' := 0) (b' := 2147483647) ⟨by omega, (Rg_any x).2⟩ ⟨by omega, by omega, by omega⟩).1
  rw [this, h]; omega
theorem and7 {x : Int32} {k : Nat} (h : x.toInt = k) : (x &&& 7).toInt = ((k % 8 : Nat) : Int) := by
  rw [and7_mod (x := x) (a := 0) (b := 2147483647) ⟨by omega, (Rg_any x).2⟩ (by omega), h]; omega
theorem div8 {x : Int32} {k : Nat} (h : x.toInt = k) : (x / 8).toInt = ((k / 8 : Nat) : Int) := by
  have := (Rg_div (x := x) (y := 8) (a := 0) (b := 2147483647) (d := 8) (a' := 0) (b' := 2147483647) ⟨by omega, (Rg_any x).2⟩ ⟨by decide, by decide⟩ ⟨⟨by omega, by omega⟩, by omega, by omega⟩).1
  rw [this, h, cI8]; omega
theorem rem8 {x : Int32} {k : Nat} (h : x.toInt = k) : (x - x / 8 * 8).toInt = ((k % 8 : Nat) : Int) := by
  have := (Rg_rem (x := x) (y := 8) (a := 0) (b := 2147483647) (d := 8) (b' := 7) ⟨by omega, (Rg_any x).2⟩ ⟨by decide, by decide⟩ ⟨⟨by omega, by omega⟩, by omega⟩).1
  rw [this, h, cI8]; omega
theorem eq0 {x : Int32} : x = 0 ↔ x.toInt = 0 := ⟨fun h => by rw [h]; decide, fun h => Int32.toInt_inj.mp (by rw [h]; decide)⟩
theorem areS_l {x1 : Int32} : ∀ (f n k : Nat) (rest i : Int32), i.toInt = n → rest.toInt = k → n ≤ 4 → 5 ≤ f + n → F_X10_areSorts_21 x1 f rest i = if (dgL f n k).isSome = true then 1 else 0 := by
  intro f
  induction f with
  | zero => intro n k rest i _ _ h1 h2; omega
  | succ f ih =>
    intro n k rest i hi hr h1 h2
    rw [F_X10_areSorts_21_s]
    simp only [B_X10_areSorts_21, nm]
    have e0 : (rest = 0) = (k = 0) := propext ⟨fun h => by have := eq0.mp h; omega, fun h => eq0.mpr (by omega)⟩
    have e7 : (rest &&& 7 = 0) = (k % 8 = 0) := propext ⟨fun h => by have := eq0.mp h; rw [and7 hr] at this; omega, fun h => eq0.mpr (by rw [and7 hr]; omega)⟩
    simp only [e0, e7]
    have d0 : k = 0 → dgL (f + 1) n k = some n := fun h => by rw [dgL, if_pos h]
    have d1 : ¬ k = 0 → (k % 8 = 0 ∨ n = 4) → dgL (f + 1) n k = none := fun h h2 => by rw [dgL, if_neg h, if_pos h2]
    have d2 : ¬ k = 0 → ¬ (k % 8 = 0 ∨ n = 4) → dgL (f + 1) n k = dgL f (n + 1) (k / 8) := fun h h2 => by rw [dgL, if_neg h, if_neg h2]
    by_cases h4 : (4 : Int32) ≤ i
    · have h5 := Rg_le h4
      rw [cI4] at h5
      rw [if_pos h4]
      by_cases hk : k = 0
      · rw [if_pos hk, d0 hk]; rfl
      · rw [if_neg hk, d1 hk (Or.inr (by omega))]; rfl
    · have h5 := Rg_nle h4
      rw [cI4] at h5
      rw [if_neg h4]
      by_cases hm : k % 8 = 0
      · rw [if_pos hm]
        by_cases hk : k = 0
        · rw [if_pos hk, d0 hk]; rfl
        · rw [if_neg hk, d1 hk (Or.inl hm)]; rfl
      · rw [if_neg hm, d2 (by omega) (by omega)]
        exact ih (n + 1) (k / 8) _ _ (by rw [add1 (b := 4) (by omega) (by omega), hi]; omega) (shr3 hr) (by omega) (by omega)
theorem fuel4 : (4 - (0 : Int32).toInt).toNat + 1 = 5 := by decide
theorem areS1 {x : Int32} (h0 : x < 0) : F_X10_areSorts x = 0 := by
  simp only [F_X10_areSorts, nm]
  rw [if_pos h0]
theorem areS2 {x : Int32} (h0 : ¬ x < 0) (h7 : ¬ (x &&& 7) < 7) : F_X10_areSorts x = 0 := by
  simp only [F_X10_areSorts, nm]
  rw [if_neg h0, if_neg h7]
theorem areS3 {x : Int32} (h0 : ¬ x < 0) (h7 : (x &&& 7) < 7) : F_X10_areSorts x = F_X10_areSorts_21 x 5 (x >>> ((3 : Int32) &&& 31)) 0 := by
  simp only [F_X10_areSorts, nm]
  rw [if_neg h0, if_pos h7, fuel4]
theorem areS4 {x : Int32} {k : Nat} (hx : x.toInt = k) : F_X10_areSorts_21 x 5 (x >>> ((3 : Int32) &&& 31)) 0 = if (dgL 5 0 (k / 8)).isSome = true then 1 else 0 := areS_l 5 0 (k / 8) _ _ cI0 (shr3 hx) (by omega) (by omega)
theorem areS {x : Int32} : F_X10_areSorts x = if sortsOk x.toInt then 1 else 0 := by
  by_cases h0 : x < 0
  · have := Rg_lt h0
    rw [cI0] at this
    rw [areS1 h0, if_neg (fun h => by have := h.1; omega)]
  · have h1 := Rg_nlt h0
    rw [cI0] at h1
    obtain ⟨k, hx⟩ : ∃ k : Nat, x.toInt = k := ⟨x.toInt.toNat, by omega⟩
    by_cases h7 : (x &&& 7) < 7
    · have h8 := Rg_lt h7
      rw [and7 hx, cI7] at h8
      rw [areS3 h0 h7, areS4 hx]
      have ek : x.toInt.toNat = k := by omega
      by_cases hd : (dgL 5 0 (k / 8)).isSome = true
      · rw [if_pos hd, if_pos]
        exact ⟨h1, by omega, by rw [ek]; exact hd⟩
      · rw [if_neg hd, if_neg]
        exact fun q => hd (by have := q.2.2; rw [ek] at this; exact this)
    · have h8 := Rg_nlt h7
      rw [and7 hx, cI7] at h8
      rw [areS2 h0 h7, if_neg]
      exact fun q => by have := q.2.1; omega
/-- a member becomes another -/
theorem setW {b : Nat} {p q r : Int32} {I : hI} {J : hJ} {R : hR} : F_X5_setWork b p q r I J R = (u2 (u2 (u2 I b 4 p) b 5 q) b 6 r, J, R) := rfl
theorem become_l {b so fa : Nat} {x1 x2 y9 y3 : Int32} {J : hJ} {R : hR} (vso : R b 3 = some so) (vfa : R b 7 = some fa) : ∀ (f n : Nat) (I : hI) (rest i : Int32), i.toInt = n → n ≤ 4 → 5 ≤ f + n → ∃ I1, F_X5_become_25 b x1 x2 y9 y3 f I J R rest i = (I1, J, R) ∧ ∀ c, c ≠ b → c ≠ so → c ≠ fa → I1 c = I c := by
  intro f
  induction f with
  | zero => intro n I rest i _ h1 h2; omega
  | succ f ih =>
    intro n I rest i hi h1 h2
    rw [F_X5_become_25_s]
    simp only [B_X5_become_25, nm, nmW, vso, vfa, Option.getD_some, setW, fill_55]
    have fr : ∀ c, c ≠ b → c ≠ so → c ≠ fa → fillF (u2 (u2 (u2 I b 4 0) b 5 (-1)) b 6 0) fa 4 1 c = I c := fun c h1 h2 h3 => by rw [fillF_ne h3, u2_ne h1, u2_ne h1, u2_ne h1]
    by_cases h4 : (4 : Int32) ≤ i
    · rw [if_pos h4]; exact ⟨_, rfl, fr⟩
    · have h5 := Rg_nle h4
      rw [cI4] at h5
      rw [if_neg h4]
      by_cases h0 : rest = 0
      · rw [if_pos h0]; exact ⟨_, rfl, fr⟩
      · rw [if_neg h0]
        obtain ⟨I1, e1, e2⟩ := ih (n + 1) (u2 (u2 I so i.toNatClampNeg ((rest &&& 7) - 1)) b 2 (I b 2 + 1)) (rest >>> ((3 : Int32) &&& 31)) (i + 1) (by rw [add1 (b := 4) (by omega) (by omega), hi]; omega) (by omega) (by omega)
        exact ⟨I1, e1, fun c q1 q2 q3 => by rw [e2 c q1 q2 q3, u2_ne q1, u2_ne q2]⟩
theorem become_fr {b so fa : Nat} {x1 x2 : Int32} {I : hI} {J : hJ} {R : hR} (vso : R b 3 = some so) (vfa : R b 7 = some fa) : ∃ I1, F_X5_become b x1 x2 I J R = (I1, J, R) ∧ ∀ c, c ≠ b → c ≠ so → c ≠ fa → I1 c = I c := by
  obtain ⟨I1, e1, e2⟩ := become_l (x1 := x1) (x2 := x2) (y9 := x2 >>> ((3 : Int32) &&& 31)) (y3 := x2 &&& 7) (J := J) vso vfa 5 0 (u2 (u2 (u2 I b 0 x1) b 1 (x2 &&& 7)) b 2 0) (x2 >>> ((3 : Int32) &&& 31)) 0 (by decide) (by omega) (by omega)
  exact ⟨I1, e1, fun c q1 q2 q3 => by rw [e2 c q1 q2 q3, u2_ne q1, u2_ne q1, u2_ne q1]⟩
theorem add7 {b ma me so fa : Nat} {x1 x2 : Int32} {I : hI} {J : hJ} {R : hR} (vma : R b 0 = some ma) (vme : R ma (I b 1).toNatClampNeg = some me) (vso : R me 3 = some so) (vfa : R me 7 = some fa) (h : (I b 1).toInt < 2147483647) :
    ∃ I1, F_X7_add b x1 x2 I J R = (I b 1, (I1, J, R)) ∧ I1 b 1 = I b 1 + 1 ∧ ∀ c, c ≠ b → c ≠ me → c ≠ so → c ≠ fa → I1 c = I c := by
  obtain ⟨I1, e1, e2⟩ := become_fr (x1 := x1) (x2 := x2) (I := I) (J := J) vso vfa
  refine ⟨u2 I1 b 1 (I b 1 + 1), ?_, u2_at, fun c q1 q2 q3 q4 => by rw [u2_ne q1, e2 c q2 q3 q4]⟩
  simp only [F_X7_add, nm, nmW, vma, vme, Option.getD_some, e1]
  rw [addsub1 h]
theorem forgetF_l {w ww : Nat} {x1 : Int32} {J : hJ} {R : hR} (v : R w 2 = some ww) : ∀ (f n : Nat) (I : hI) (i : Int32), i.toInt = n → n ≤ 10 → 11 ≤ f + n → ∃ I1, F_X9_forgetFace_2 w x1 f I J R i = (I1, J, R) ∧ ∀ c, c ≠ ww → I1 c = I c := by
  intro f
  induction f with
  | zero => intro n I i _ h1 h2; omega
  | succ f ih =>
    intro n I i hi h1 h2
    rw [F_X9_forgetFace_2_s]
    simp only [B_X9_forgetFace_2, nm, v, Option.getD_some]
    by_cases h4 : (10 : Int32) ≤ i
    · rw [if_pos h4]; exact ⟨I, rfl, fun _ _ => rfl⟩
    · have h5 := Rg_nle h4
      rw [cI10] at h5
      rw [if_neg h4]
      obtain ⟨I1, e1, e2⟩ := ih (n + 1) (u2 (u2 I ww (x1 * 10 + i).toNatClampNeg (-1)) ww (i * 10 + x1).toNatClampNeg (-1)) (i + 1) (by rw [add1 (b := 10) (by omega) (by omega), hi]; omega) (by omega) (by omega)
      exact ⟨I1, e1, fun c q => by rw [e2 c q, u2_ne q, u2_ne q]⟩
theorem forgetF {w ww : Nat} {x1 : Int32} {I : hI} {J : hJ} {R : hR} (v : R w 2 = some ww) : ∃ I1, F_X9_forgetFace w x1 I J R = (I1, J, R) ∧ ∀ c, c ≠ ww → I1 c = I c := forgetF_l v 11 0 I 0 (by decide) (by omega) (by omega)
/-- the model's add -/
theorem madd2_l {a0 n8 b18 b25 b4 b6 b8 : Nat} {x1 x2 x3 : Int32} {J : hJ} {R : hR} (v11 : R a0 11 = some b18) (v16 : R a0 16 = some b25) (v13 : R a0 13 = some b4) (v14 : R a0 14 = some b6) (v15 : R a0 15 = some b8) (n1 : n8 ≠ b18) (n2 : n8 ≠ b25) (n3 : n8 ≠ b4) (n4 : n8 ≠ b6) (n5 : n8 ≠ b8) :
    ∀ (f n : Nat) (I : hI) (x4 x5 x6 i : Int32), i.toInt = n → n ≤ 4 → 5 ≤ f + n → (I n8 x1.toNatClampNeg).toInt < 2147483647 → ∃ I1, F_X11_add_136 a0 x1 x2 x3 n8 f I J R x4 x5 x6 i = (I n8 x1.toNatClampNeg, (I1, J, R)) ∧ I1 n8 = up (I n8) x1.toNatClampNeg (I n8 x1.toNatClampNeg + 1) := by
  intro f
  induction f with
  | zero => intro n I x4 x5 x6 i _ h1 h2; omega
  | succ f ih =>
    intro n I x4 x5 x6 i hi h1 h2 hm
    rw [F_X11_add_136_s]
    simp only [B_X11_add_136, nm, v11, v16, v13, v14, v15, Option.getD_some]
    by_cases h4 : (4 : Int32) ≤ i
    · rw [if_pos h4]
      refine ⟨u2 (u2 (u2 (u2 I b4 x6.toNatClampNeg 0) b6 x6.toNatClampNeg (-1)) b8 x6.toNatClampNeg 0) n8 x1.toNatClampNeg (I n8 x1.toNatClampNeg + 1), ?_, ?_⟩
      · rw [u2_ne n5, u2_ne n4, u2_ne n3, u2_at, addsub1 hm]
      · rw [u2_up, u2_ne n5, u2_ne n4, u2_ne n3]
    · have h5 := Rg_nle h4
      rw [cI4] at h5
      rw [if_neg h4]
      have hi1 : (i + 1).toInt = ((n + 1 : Nat) : Int) := by rw [add1 (b := 4) (by omega) (by omega), hi]; omega
      by_cases h0 : x4 ≤ i
      · rw [if_pos h0]
        obtain ⟨I1, e1, e2⟩ := ih (n + 1) (u2 (u2 I b18 (4 * x6 + i).toNatClampNeg 0) b25 (4 * x6 + i).toNatClampNeg 1) x4 (x5 / 8) x6 (i + 1) hi1 (by omega) (by omega) (by rw [u2_ne n2, u2_ne n1]; exact hm)
        rw [u2_ne n2, u2_ne n1] at e1 e2
        exact ⟨I1, e1, e2⟩
      · rw [if_neg h0]
        obtain ⟨I1, e1, e2⟩ := ih (n + 1) (u2 (u2 I b18 (4 * x6 + i).toNatClampNeg (x5 - x5 / 8 * 8 - 1)) b25 (4 * x6 + i).toNatClampNeg 1) x4 (x5 / 8) x6 (i + 1) hi1 (by omega) (by omega) (by rw [u2_ne n2, u2_ne n1]; exact hm)
        rw [u2_ne n2, u2_ne n1] at e1 e2
        exact ⟨I1, e1, e2⟩
theorem madd1_l {a0 n8 b9 b12 b10 b18 b25 b4 b6 b8 : Nat} {x1 x2 x3 : Int32} {I : hI} {J : hJ} {R : hR} (v9 : R a0 9 = some b9) (v12 : R a0 12 = some b12) (v10 : R a0 10 = some b10) (v11 : R a0 11 = some b18) (v16 : R a0 16 = some b25) (v13 : R a0 13 = some b4) (v14 : R a0 14 = some b6) (v15 : R a0 15 = some b8)
    (m1 : n8 ≠ b9) (m2 : n8 ≠ b12) (m3 : n8 ≠ b10) (n1 : n8 ≠ b18) (n2 : n8 ≠ b25) (n3 : n8 ≠ b4) (n4 : n8 ≠ b6) (n5 : n8 ≠ b8) (hm : (I n8 x1.toNatClampNeg).toInt < 2147483647) :
    ∀ (f n k : Nat) (i left : Int32), i.toInt = n → left.toInt = k → n ≤ 4 → 5 ≤ f + n → ((dgL f n k).isSome = false → F_X11_add_37 a0 x1 x2 x3 n8 f I J R i left = (-3, (I, J, R))) ∧ ((dgL f n k).isSome = true → I n8 x1.toNatClampNeg = 6 → F_X11_add_37 a0 x1 x2 x3 n8 f I J R i left = (-5, (I, J, R))) ∧
      ((dgL f n k).isSome = true → ¬ I n8 x1.toNatClampNeg = 6 → ∃ I1, F_X11_add_37 a0 x1 x2 x3 n8 f I J R i left = (I n8 x1.toNatClampNeg, (I1, J, R)) ∧ I1 n8 = up (I n8) x1.toNatClampNeg (I n8 x1.toNatClampNeg + 1)) := by
  intro f
  induction f with
  | zero => intro n k i left _ _ h1 h2; omega
  | succ f ih =>
    intro n k i left hi hl h1 h2
    rw [F_X11_add_37_s]
    simp only [B_X11_add_37, nm, v9, v12, v10, Option.getD_some, dgL]
    by_cases hk : k = 0
    · have h0 : left ≤ 0 := Int32.le_iff_toInt_le.mpr (by rw [cI0]; omega)
      simp only [if_pos hk, if_pos h0]
      refine ⟨fun h => by simp at h, fun _ h => by rw [if_pos h], fun _ h => ?_⟩
      rw [if_neg h]
      obtain ⟨I1, e1, e2⟩ := madd2_l (x2 := x2) (x3 := x3) (x1 := x1) (J := J) v11 v16 v13 v14 v15 n1 n2 n3 n4 n5 5 0 (u2 (u2 (u2 I b9 (6 * x1 + I n8 x1.toNatClampNeg).toNatClampNeg x2) b12 (6 * x1 + I n8 x1.toNatClampNeg).toNatClampNeg (x3 - x3 / 8 * 8)) b10 (6 * x1 + I n8 x1.toNatClampNeg).toNatClampNeg i) i (x3 / 8) (6 * x1 + I n8 x1.toNatClampNeg) 0 (by decide) (by omega) (by omega) (by rw [u2_ne m3, u2_ne m2, u2_ne m1]; exact hm)
      rw [u2_ne m3, u2_ne m2, u2_ne m1] at e1 e2
      exact ⟨I1, e1, e2⟩
    · have h0 : ¬ left ≤ 0 := fun h => by have := Rg_le h; rw [cI0] at this; omega
      have e7 : (left - left / 8 * 8 = 0) = (k % 8 = 0) := propext ⟨fun h => by have := eq0.mp h; rw [rem8 hl] at this; omega, fun h => eq0.mpr (by rw [rem8 hl]; omega)⟩
      have e4 : (i = 4) = (n = 4) := propext ⟨fun h => by rw [h, cI4] at hi; omega, fun h => Int32.toInt_inj.mp (by rw [hi, cI4, h]; rfl)⟩
      simp only [if_neg hk, if_neg h0, e7, e4]
      by_cases hm8 : k % 8 = 0
      · simp only [if_pos hm8, if_pos (Or.inl hm8 : k % 8 = 0 ∨ n = 4)]
        exact ⟨fun _ => trivial, fun h => by simp at h, fun h => by simp at h⟩
      · by_cases hn : n = 4
        · simp only [if_neg hm8, if_pos hn, if_pos (Or.inr hn : k % 8 = 0 ∨ n = 4)]
          exact ⟨fun _ => trivial, fun h => by simp at h, fun h => by simp at h⟩
        · simp only [if_neg hm8, if_neg hn, if_neg (show ¬ (k % 8 = 0 ∨ n = 4) by omega)]
          exact ih (n + 1) (k / 8) (i + 1) (left / 8) (by rw [add1 (b := 4) (by omega) (by omega), hi]; omega) (div8 hl) (by omega) (by omega)
