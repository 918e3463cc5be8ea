/-! one link more, in the class and in the model -/
theorem linkC {kc ch kp fi t p f sb ma k : Nat} {acs : Nat → Nat} {o : Option (Int × Nat × List Nat)} {Ia Ib Ic : hI} {J : hJ} {R' : hR} (v2 : R' kc 2 = some fi) (v5 : R' kc 5 = some ch) (v6 : R' kc 6 = some kp) (vp : R' fi 6 = some p) (vf : R' ch k = some f) (vb : R' sb 0 = some ma) (hk : (Ia kc 7).toInt = k) (hk10 : k < 10) (n1 : kp ≠ kc) (n2 : p ≠ kp) (hf : F_X3_find fi f sb Ia J R' = (if o.isSome = true then 1 else 0, (Ic, J, R'))) (hc : Cf fi t p acs Ib Ic o) :
    (o = none ∧ F_X1_link kc sb Ia J R' = (0, (Ic, J, R'))) ∨ (∃ z m l I1, o = some (z, m, l) ∧ F_X1_link kc sb Ia J R' = (1, (I1, J, u2 R' ch (k + 1) (some ((R' ma m).getD 0)))) ∧ (I1 kc 7).toInt = ((k + 1 : Nat) : Int) ∧ (∀ j, j ≠ 7 → I1 kc j = Ic kc j) ∧ (∀ z, z ≠ kc → z ≠ kp → I1 z = Ic z) ∧ (∀ i, i < 4 → I1 kp (4 * k + i) = Ic p i) ∧ ∀ q, (q < 4 * k ∨ 4 * k + 4 ≤ q) → I1 kp q = Ic kp q) := by
  have hy1 : (Ia kc 7 + 1).toInt = ((k + 1 : Nat) : Int) := by rw [add1 (b := 10) (by omega) (by omega), hk]; omega
  have hy4 : (Ia kc 7 * 4).toNatClampNeg = 4 * k := clamp_toInt (by rw [imul hk cI4 (by omega) (by omega)]; omega)
  simp only [F_X1_link, nm, nmU, v2, v5, v6, vp, vb, Option.getD_some, clamp_toInt hk, vf, hy4, clamp_toInt hy1]
  rw [if_neg (by rw [ile, hk, cI10]; omega), hf]
  dsimp only
  cases o with
  | none =>
    rw [if_neg (show ¬ (none : Option (Int × Nat × List Nat)).isSome = true by decide), if_neg (show ¬ (0 : Int32) = 1 by decide)]
    exact Or.inl ⟨rfl, rfl⟩
  | some q =>
    rw [if_pos (show (some q).isSome = true from rfl), if_pos (show (1 : Int32) = 1 from rfl)]
    rcases hc.2.2 with ⟨z, -⟩ | ⟨z, m, l, z1, z2, z3, z4, z5⟩
    · cases z
    · cases z1
      rw [clamp_toInt z4]
      refine Or.inr ⟨z, m, l, _, rfl, rfl, by rw [u2_at]; exact hy1, fun j hj => by rw [u2_nk hj, cp2_ne (fun e => n1 e.symm)], fun c c1 c2 => by rw [u2_ne c1, cp2_ne c2], fun i hi => ?_, fun q hq => ?_⟩
      · rw [u2_ne n1, cp2_eq]
        simp only [va_cpy]
        rw [show (0 : Int32).toNatClampNeg = 0 by decide, show (4 : Int32).toNatClampNeg = 4 by decide, if_pos (by omega), show 0 + (4 * k + i - 4 * k) = i by omega]
      · rw [u2_ne n1, cp2_eq]
        simp only [va_cpy]
        rw [show (4 : Int32).toNatClampNeg = 4 by decide, if_neg (by omega)]
theorem linkM_l {mo cl cp fp k : Nat} {xs y6 y5 y4 z1 : Int32} {J : hJ} {R : hR} (v51 : R mo 51 = some cp) (v43 : R mo 43 = some fp) (hz : z1.toInt = ((k + 1 : Nat) : Int)) (hk : k ≤ 9) (n1 : cp ≠ fp) {I0 : hI} :
    ∀ (r f i : Nat) (x : Int32) (I : hI), x.toInt = i → i + r = 4 → r < f → (∀ z, z ≠ cp → I z = I0 z) → (∀ q, I cp q = if 4 * (k + 1) ≤ q ∧ q < 4 * (k + 1) + i then I0 fp (q - 4 * (k + 1)) else I0 cp q) →
      ∃ I1, F_X11_link_23 mo xs y6 z1 y5 cl y4 f I J R x = (1, (u2 (u2 I1 cl (k + 1) (6 * xs + I1 mo 42)) mo 49 (z1 + 1), J, R)) ∧ (∀ z, z ≠ cp → I1 z = I0 z) ∧ ∀ q, I1 cp q = if 4 * (k + 1) ≤ q ∧ q < 4 * (k + 1) + 4 then I0 fp (q - 4 * (k + 1)) else I0 cp q := by
  intro r
  induction r with
  | zero =>
    intro f i x I hx hr hf hI hc
    obtain ⟨f', rfl⟩ : ∃ f', f = f' + 1 := ⟨f - 1, by omega⟩
    obtain rfl : i = 4 := by omega
    rw [F_X11_link_23_s]
    simp only [B_X11_link_23, nm, clamp_toInt hz]
    rw [if_pos (by rw [ile, hx, cI4]; omega)]
    exact ⟨I, rfl, hI, hc⟩
  | succ r ih =>
    intro f i x I hx hr hf hI hc
    obtain ⟨f', rfl⟩ : ∃ f', f = f' + 1 := ⟨f - 1, by omega⟩
    have i1 : (4 * z1 + x).toNatClampNeg = 4 * (k + 1) + i := clamp_toInt (by rw [iadd (imul (x := 4) cI4 hz (by omega) (by omega)) hx (by omega) (by omega)]; omega)
    rw [F_X11_link_23_s]
    simp only [B_X11_link_23, nm, v51, v43, Option.getD_some, i1, clamp_toInt hx]
    rw [if_neg (by rw [ile, hx, cI4]; omega)]
    refine ih f' (i + 1) (x + 1) (u2 I cp (4 * (k + 1) + i) (I fp i)) (by rw [add1 (b := 4) (by omega) (by omega), hx]; omega) (by omega) (by omega) (fun z h => by rw [u2_ne h, hI z h]) (fun q => ?_)
    by_cases e : q = 4 * (k + 1) + i
    · rw [e, u2_at, if_pos (by omega), hI fp (fun e => n1 e.symm), show 4 * (k + 1) + i - 4 * (k + 1) = i by omega]
    · rw [u2_nk e, hc q]
      by_cases g : 4 * (k + 1) ≤ q ∧ q < 4 * (k + 1) + i
      · rw [if_pos g, if_pos (by omega)]
      · rw [if_neg g, if_neg (by omega)]
theorem linkM {mo cl cp fp pl bp k s : Nat} {acm : Nat → Nat} {o : Option (Int × Nat × List Nat)} {I K I6 : hI} {J : hJ} {R : hR} {xs : Int32} (v50 : R mo 50 = some cl) (v51 : R mo 51 = some cp) (v43 : R mo 43 = some fp) (h49 : (I mo 49).toInt = ((k + 1 : Nat) : Int)) (hk : k ≤ 9) (hs : xs.toInt = s) (hs20 : s < 20) (n1 : cp ≠ fp) (n2 : cl ≠ cp) (n3 : cl ≠ mo) (n4 : cp ≠ mo) (hf : F_X11_findFit mo (I cl k) xs I J R = (if o.isSome = true then 1 else 0, (I6, J, R))) (hm : Mf mo pl bp fp acm K I6 o) (ho : ∀ q, o = some q → q.2.1 < 6) :
    (o = none ∧ F_X11_link mo xs I J R = (0, (I6, J, R))) ∨ (∃ z m l I1, o = some (z, m, l) ∧ F_X11_link mo xs I J R = (1, (I1, J, R)) ∧ (I1 mo 49).toInt = ((k + 2 : Nat) : Int) ∧ (∀ j, j ≠ 49 → I1 mo j = I6 mo j) ∧ (∀ z, z ≠ mo → z ≠ cl → z ≠ cp → I1 z = I6 z) ∧ (I1 cl (k + 1)).toInt = ((6 * s + m : Nat) : Int) ∧ (∀ q, q ≠ k + 1 → I1 cl q = I6 cl q) ∧ (∀ i, i < 4 → I1 cp (4 * (k + 1) + i) = I6 fp i) ∧ ∀ q, (q < 4 * (k + 1) ∨ 4 * (k + 1) + 4 ≤ q) → I1 cp q = I6 cp q) := by
  have hz1 : (I mo 49 - 1).toInt = (k : Int) := by rw [isub h49 cI1 (by omega) (by omega)]; omega
  have hz2 : (I mo 49 + 1).toInt = ((k + 2 : Nat) : Int) := by rw [add1 (b := 11) (by omega) (by omega), h49]; omega
  simp only [F_X11_link, nm, nmU, v50, Option.getD_some, clamp_toInt hz1]
  rw [hf]
  dsimp only
  cases o with
  | none =>
    rw [if_neg (show ¬ (none : Option (Int × Nat × List Nat)).isSome = true by decide), if_pos (show (0 : Int32) = 0 from rfl)]
    exact Or.inl ⟨rfl, rfl⟩
  | some q =>
    rw [if_pos (show (some q).isSome = true from rfl), if_neg (show ¬ (1 : Int32) = 0 by decide), show ((4 - Int32.toInt 0).toNat + 1) = 5 by decide]
    have hq6 := ho q rfl
    rcases hm.2.2 with ⟨z, -⟩ | ⟨z, m, l, z1, z2, z3, z4, z5⟩
    · cases z
    · cases z1
      have hm6 : m < 6 := hq6
      obtain ⟨I1, g1, g2, g3⟩ := linkM_l (xs := xs) (y6 := 1) (y5 := I cl k) (y4 := I mo 49 - 1) (cl := cl) (J := J) v51 v43 h49 hk n1 (I0 := I6) 4 5 0 0 I6 (by decide) (by omega) (by omega) (fun _ _ => rfl) (fun q => by rw [if_neg (by omega)])
      rw [g1]
      refine Or.inr ⟨z, m, l, _, rfl, rfl, by rw [u2_at]; exact hz2, fun j hj => by rw [u2_nk hj, u2_ne (fun e => n3 e.symm), g2 mo (fun e => n4 e.symm)], fun c c1 c2 c3 => by rw [u2_ne c1, u2_ne c2, g2 c c3], ?_, fun q hq => by rw [u2_ne n3, u2_nk hq, g2 cl n2], fun i hi => ?_, fun q hq => ?_⟩
      · rw [u2_ne n3, u2_at, g2 mo (fun e => n4 e.symm), iadd (imul (x := 6) cI6 hs (by omega) (by omega)) z4 (by omega) (by omega)]
        omega
      · rw [u2_ne n4, u2_ne (fun e => n2 e.symm), g3, if_pos (by omega), show 4 * (k + 1) + i - 4 * (k + 1) = i by omega]
      · rw [u2_ne n4, u2_ne (fun e => n2 e.symm), g3, if_neg (by omega)]
