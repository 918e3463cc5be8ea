/-! one member serves at its best row of places; the best member -/
theorem inc_congr {af n : Nat} {tc tc' : Nat → Nat → Int} {hc hc' : Nat → Bool} (h : ∀ d i, d < af → i < n → tc d i = tc' d i) (hh : ∀ i, i < n → hc i = hc' i) {i d tk : Nat} (hi : i < n) : inc af tc hc i d tk = inc af tc' hc' i d tk := by
  unfold inc
  rw [hh i hi]
  by_cases e : d = 4
  · rw [if_pos e, if_pos e]
  · rw [if_neg e, if_neg e]
    by_cases ha : d < af
    · rw [h d i ha hi]
    · rw [if_neg (fun q => ha q.1), if_neg (fun q => ha q.1)]
theorem tf_congr {af n : Nat} {tc tc' : Nat → Nat → Int} {hc hc' : Nat → Bool} (h : ∀ d i, d < af → i < n → tc d i = tc' d i) (hh : ∀ i, i < n → hc i = hc' i) : ∀ (r i tk : Nat) (sf b : Int) (pre : List Nat), i + r ≤ n → tf af tc hc r i tk sf pre b = tf af tc' hc' r i tk sf pre b := by
  intro r
  induction r with
  | zero => intro i tk sf b pre _; rfl
  | succ r ih =>
    intro i tk sf b pre hn
    rw [tf_s, tf_s]
    have e : chd af tc hc r i tk sf pre = chd af tc' hc' r i tk sf pre := by
      funext d b
      unfold chd
      rw [inc_congr h hh (by omega)]
      cases hx : inc af tc' hc' i d tk with
      | none => rfl
      | some x => exact ih _ _ _ _ _ (by omega)
    rw [e]
theorem sq_nil {b : Int} {g : Int → Option (Int × List Nat)} : sq none b g = g b := by
  cases hx : g b with
  | none => exact sq_none hx
  | some q => exact sq_some hx
theorem five : ∀ n : Fin 5, 5 ^ n.1 ≤ 625 := by decide +kernel
noncomputable def nmO (nmm al F Cn : Nat) (I : hI) : Option Int := if I nmm F = I nmm Cn then some 0 else if I al (100 * (I nmm F).toNatClampNeg + (I nmm Cn).toNatClampNeg) = 0 then none else some 2
noncomputable def svO (so hcn tcn mr nmm al F Cn af ac : Nat) (I : hI) : Option (Int × List Nat) := match nmO nmm al F Cn I with
  | none => none
  | some s => tf af (tcM so tcn F Cn I) (hcM so hcn Cn I) ac 0 0 (rsM tcn mr F Cn I + s) [] 1000000
section SV2
variable {I : hI} {J : hJ} {R : hR} {mo my pl so hcn tcn mr nmm al bp F Cn af ac : Nat}
theorem zero_l {b3 : Nat} {x1 x2 y5 y4 x3 : Int32} : ∀ (g j : Nat) (I : hI) (xj : Int32), xj.toInt = j → j ≤ 4 → 4 < g + j → (∀ i, i < j → I pl i = 0) →
    ∃ I1, F_X11_serve_68 mo x1 x2 y5 y4 pl b3 g I J R x3 xj = F_X11_serve_91 mo x1 x2 y5 y4 pl b3 627 I1 J R x3 1 ∧ (∀ c, c ≠ pl → I1 c = I c) ∧ ∀ i, i < 4 → I1 pl i = 0 := by
  intro g
  induction g with
  | zero => intro j I xj _ h1 h2; omega
  | succ g ih =>
    intro j I xj hj hj4 hg hI
    rw [F_X11_serve_68_s]
    simp only [B_X11_serve_68, nm, clamp_toInt hj]
    by_cases e : j = 4
    · rw [if_pos (by rw [ile, hj, cI4]; omega)]
      have hv : val4 (I pl) = 0 := by
        unfold val4
        rw [hI 0 (by omega), hI 1 (by omega), hI 2 (by omega), hI 3 (by omega)]
        decide
      rw [hv, if_neg (show ¬ (1 : Int32) = 0 by decide)]
      exact ⟨I, rfl, fun _ _ => rfl, fun i hi => hI i (by omega)⟩
    · rw [if_neg (by rw [ile, hj, cI4]; omega)]
      obtain ⟨I1, a1, a2, a3⟩ := ih (j + 1) (u2 I pl j 0) (xj + 1) (by rw [add1 (b := 4) (by omega) (by omega), hj]; omega) (by omega) (by omega) (fun i hi => by
        by_cases z : i = j
        · rw [z, u2_at]
        · rw [u2_nk z]; exact hI i (by omega))
      exact ⟨I1, a1, fun c hc => (a2 c hc).trans (u2_ne hc), a3⟩
theorem serveE (cx : Mcx R mo my pl so hcn tcn mr nmm al bp) (rg : Mrg I my so tcn mr F Cn af ac) (hnm : ∀ q, q < 120 → 0 ≤ (I nmm q).toInt ∧ (I nmm q).toInt ≤ 99) {x1 x2 : Int32} (h1 : x1.toInt = F) (h2 : x2.toInt = Cn) :
    ∃ rv I1, F_X11_serve mo x1 x2 I J R = (rv, (I1, J, R)) ∧ Ms mo pl bp ac I I1 (svO so hcn tcn mr nmm al F Cn af ac I) ∧ rv.toInt = bd 1000000 (svO so hcn tcn mr nmm al F Cn af ac I) := by
  have cx0 := cx
  have rg0 := rg
  obtain ⟨v10, v38, v11, v19, v32, v12, v9, v17, v39, ⟨p1, p2, p3⟩, ⟨my1, my2, my3⟩, ⟨so1, so2, so3⟩, ⟨hc1, hc2, hc3⟩, ⟨tc1, tc2, tc3⟩, ⟨mr1, mr2, mr3⟩, ⟨nm1, nm2, nm3⟩, ⟨al1, al2, al3⟩⟩ := cx
  obtain ⟨hF, hC, ha, ha4, hc, hc4, hso, htt, hmr⟩ := rg
  have go : ∀ (b3 : Nat) (y5 y4 s : Int32) (nme : Int), s.toInt = nme → 0 ≤ nme ∧ nme ≤ 2 → ∃ rv I1, F_X11_serve_68 mo x1 x2 y5 y4 pl b3 5 (u2 I mo 40 1000000) J R s 0 = (rv, (I1, J, R)) ∧ Ms mo pl bp ac I I1 (tf af (tcM so tcn F Cn I) (hcM so hcn Cn I) ac 0 0 (rsM tcn mr F Cn I + nme) [] 1000000) ∧ rv.toInt = bd 1000000 (tf af (tcM so tcn F Cn I) (hcM so hcn Cn I) ac 0 0 (rsM tcn mr F Cn I + nme) [] 1000000) := fun b3 y5 y4 s nme hs hs2 => by
    obtain ⟨I1, a1, a2, a3⟩ := zero_l (J := J) (R := R) (mo := mo) (pl := pl) (b3 := b3) (x1 := x1) (x2 := x2) (y5 := y5) (y4 := y4) (x3 := s) 5 0 (u2 I mo 40 1000000) 0 (by decide) (by omega) (by omega) (fun i hi => by omega)
    have m0 : Ms mo pl bp ac I I1 none := ⟨fun z z1 z2 z3 => by rw [a2 z z2, u2_ne z1], fun k hk => by rw [a2 mo p1.symm, u2_nk hk], ⟨by rw [a2 mo p1.symm, u2_at]; decide, Int.le_refl _⟩, fun q hq => by cases hq⟩
    have h5 := five ⟨ac, by omega⟩
    have h5 : 5 ^ ac ≤ 625 := h5
    obtain ⟨I2, b1, b2, -, b4⟩ := rows_l (J := J) (y5 := y5) (y4 := y4) (b3 := b3) cx0 rg0 h1 h2 hs hs2 ac [] I1 none (627 - 5 ^ ac) (by simp) (fun j hj => by simp at hj) (fun j _ hj => a3 j (by omega)) m0
    rw [show 627 - 5 ^ ac + 5 ^ ac = 627 by omega] at b1
    obtain ⟨I3, c1, c2⟩ := next0 (J := J) (x1 := x1) (y5 := y5) (y4 := y4) (x3 := s) (x4 := 1) (b3 := b3) (k := F_X11_serve_91 mo x1 x2 y5 y4 pl b3 (627 - 5 ^ ac)) cx0 rg0 b2.1 h2 (fun j hj => b4 j (Nat.zero_le _) hj)
    rw [sq_nil, mf_top] at b2
    have b3_ := b2.pl p1 p3 c2
    obtain ⟨g', hg'⟩ : ∃ g', 627 - 5 ^ ac = g' + 1 := ⟨627 - 5 ^ ac - 1, by omega⟩
    refine ⟨I3 mo 40, I3, ?_, b3_, b3_.2.2.1.1⟩
    rw [a1, b1, c1, hg', F_X11_serve_91_s]
    simp only [B_X11_serve_91, nm]
    rw [if_pos trivial]
  simp only [F_X11_serve, F_X11_serve_55, nm, v38, v9, v17, Option.getD_some, clamp_toInt h1, clamp_toInt h2]
  rw [u2_ne nm1, u2_ne al1]
  unfold svO nmO
  by_cases e : I nmm F = I nmm Cn
  · simp only [if_pos e]
    rw [if_neg (show ¬ (0 : Int32) = 1000000 by decide)]
    exact go nmm _ _ 0 0 (by decide) (by decide)
  · have r1 := hnm F hF
    have r2 := hnm Cn hC
    have n1 := nat_of r1.1
    have n2 := nat_of r2.1
    have ic : (100 * I nmm F + I nmm Cn).toNatClampNeg = 100 * (I nmm F).toNatClampNeg + (I nmm Cn).toNatClampNeg := clamp_toInt (by rw [iadd (imul (x := 100) cI100 n1.symm (by omega) (by omega)) n2.symm (by omega) (by omega)]; omega)
    simp only [if_neg e, ic]
    by_cases z : I al (100 * (I nmm F).toNatClampNeg + (I nmm Cn).toNatClampNeg) = 0
    · simp only [if_pos z]
      exact ⟨1000000, u2 I mo 40 1000000, by simp, ⟨fun z z1 z2 z3 => u2_ne z1, fun k hk => u2_nk hk, ⟨by rw [u2_at]; decide, Int.le_refl _⟩, fun q hq => by cases hq⟩, by decide⟩
    · simp only [if_neg z]
      rw [if_neg (show ¬ (2 : Int32) = 1000000 by decide)]
      exact go nmm _ _ 2 2 (by decide) (by decide)
end SV2
