/-! what a member costs is the same in the class and in the model -/
theorem wc50 {I : hI} {ru rf rt rc rth : Nat} (hr : Rl I ru rf rt rc) : ∀ (l : List Nat) (u v : Nat), Wk (sr I rf) (sr I rt) (pe I ru rth) u l v → wc (cs I rc) l ≤ 50 * (l.length : Int) := by
  intro l
  induction l with
  | nil => intro u v _; simp [wc]
  | cons x l ih =>
    intro u v hw
    obtain ⟨h1, h2, h3⟩ := hw
    have := ih _ _ h3
    have c50 : cs I rc x ≤ 50 := (hr.2 x (by have := hr.1.2; have := h1.1; omega)).2.2.2
    simp only [wc, List.length_cons]
    omega
section COST
variable {I K : hI} {J : hJ} {R : hR} {ru rf rt rc rth w fi tc tm tr : Nat}
theorem w2406 {a b : Nat} (hr : Rl I ru rf rt rc) (hT : Tb I ru rf rt rc rth w fi) (ha : a < 7) (hb : b < 7) (hd : (I w (a * 7 + b)).toInt < 268435456) : (I w (a * 7 + b)).toInt ≤ 2406 := by
  have hE := EokR (rth := rth) hr
  obtain ⟨q1, q2, q3⟩ := gry_ok hE (by decide) (hT.D hr hb) (hT.F hb) 7 a ha hd (rk_le 7)
  have hrk : rk 7 (fun u => (I w (u * 7 + b)).toInt) (I w (a * 7 + b)).toInt < 7 := rk_lt_n (u := a) (Int.le_refl _) 7 ha
  have h5 := wc50 hr _ _ _ q1
  (try dsimp only at q2 q3)
  omega
theorem cb300 (v8 : R ru 8 = some w) (hr : Rl I ru rf rt rc) (hT : Tb I ru rf rt rc rth w fi) {x y : Int32} (hx : 0 ≤ x.toInt ∧ x.toInt ≤ 6) (hy : 0 ≤ y.toInt ∧ y.toInt ≤ 6) : -1 ≤ (F_X6_costBetween ru x y I J R).toInt ∧ (F_X6_costBetween ru x y I J R).toInt ≤ 300 := by
  obtain ⟨a, ha⟩ : ∃ a : Nat, x.toInt = a := ⟨x.toInt.toNat, by omega⟩
  obtain ⟨b, hb⟩ : ∃ b : Nat, y.toInt = b := ⟨y.toInt.toNat, by omega⟩
  have w0 : 0 ≤ (I w (a * 7 + b)).toInt := (hT.1.1 (a * 7 + b) (by omega)).1
  rw [costB (I := I) (J := J) v8 ha hb (by omega) (by omega) w0]
  by_cases h : (I w (a * 7 + b)).toInt < 268435456
  · have := w2406 hr hT (show a < 7 by omega) (show b < 7 by omega) h
    rw [if_pos h]
    omega
  · rw [if_neg h]; decide
theorem tcEq (v8 : R ru 8 = some w) (hr : Rl I ru rf rt rc) (hT : Tb I ru rf rt rc rth w fi) (hM : ∀ a, a < 7 → TbM K tc tm tr a (sr I rf) (sr I rt) (cs I rc) (pe I ru rth)) {x y : Int32} (hx : 0 ≤ x.toInt ∧ x.toInt ≤ 6) (hy : 0 ≤ y.toInt ∧ y.toInt ≤ 6) :
    (F_X6_costBetween ru x y I J R).toInt = if (K tc (7 * x.toNatClampNeg + y.toNatClampNeg)).toInt < 1000000 then (K tc (7 * x.toNatClampNeg + y.toNatClampNeg)).toInt else -1 := by
  obtain ⟨a, ha⟩ : ∃ a : Nat, x.toInt = a := ⟨x.toInt.toNat, by omega⟩
  obtain ⟨b, hb⟩ : ∃ b : Nat, y.toInt = b := ⟨y.toInt.toNat, by omega⟩
  have w0 : 0 ≤ (I w (a * 7 + b)).toInt := (hT.1.1 (a * 7 + b) (by omega)).1
  rw [costB (I := I) (J := J) v8 ha hb (by omega) (by omega) w0, clamp_toInt ha, clamp_toInt hb]
  rcases turn_eq (mo := 0) (mf := 0) (mt := 0) (mc := 0) (mi := 0) hr hT (hM a (by omega)) (show a < 7 by omega) (show b < 7 by omega) with ⟨q1, q2, q3, q4, q5, -, -⟩ | ⟨q1, q2⟩
  · rw [if_pos q1, if_pos q2]
    omega
  · rw [if_neg (by omega), if_neg (by omega)]
theorem tcRg (hr : Rl I ru rf rt rc) (hT : Tb I ru rf rt rc rth w fi) (hM : ∀ a, a < 7 → TbM K tc tm tr a (sr I rf) (sr I rt) (cs I rc) (pe I ru rth)) : ∀ q, q < 49 → 0 ≤ (K tc q).toInt ∧ (K tc q).toInt ≤ 1000000 := fun q hq => by
  have e : 7 * (q / 7) + q % 7 = q := by omega
  rcases turn_eq (mo := 0) (mf := 0) (mt := 0) (mc := 0) (mi := 0) hr hT (hM (q / 7) (by omega)) (show q / 7 < 7 by omega) (show q % 7 < 7 by omega) with ⟨q1, q2, q3, q4, q5, -, -⟩ | ⟨q1, q2⟩
  · rw [e] at q2 q5
    exact ⟨q5, by omega⟩
  · rw [e] at q2
    exact ⟨by omega, by omega⟩
end COST
theorem hasT {I : hI} {J : hJ} {R : hR} {mo al pa ma : Nat} (e : EqA I mo al pa ma) (v : R al 0 = some pa) {a b : Int32} (ha : 0 ≤ a.toInt ∧ a.toInt ≤ 99) (hb : 0 ≤ b.toInt ∧ b.toInt ≤ 99) : F_X0_has al a b I J R = 0 ↔ I ma (100 * a.toNatClampNeg + b.toNatClampNeg) = 0 := by
  obtain ⟨e1, e2, e3, e4⟩ := e
  have n1 := nat_of ha.1
  have n2 := nat_of hb.1
  have hk := (key ha hb).1
  obtain ⟨f1, f2⟩ := e4 (100 * a.toNatClampNeg + b.toNatClampNeg) (by omega)
  rcases hasE (J := J) (x1 := a) (x2 := b) v e2 with ⟨h1, h2⟩ | ⟨h1, i, h2, h3⟩
  · refine ⟨fun _ => ?_, fun _ => h1⟩
    rcases f1 with f | f
    · exact f
    · obtain ⟨i, g1, g2⟩ := f2.mp f
      exact absurd (Int32.toInt_inj.mp (by rw [g2, hk]; omega)) (h2 i g1)
  · refine ⟨fun q => absurd (h1.symm.trans q) (by decide), fun q => ?_⟩
    have := f2.mpr ⟨i, h2, by rw [h3, hk]; omega⟩
    rw [q] at this
    exact absurd this (by decide)
theorem svEq {I K : hI} {J : hJ} {R : hR} {al ru ct f fs c cs so hcn tcn mr nmm alt F Cn af ac : Nat} (ha4 : af ≤ 4) (hc4 : ac ≤ 4) (n1 : I f 0 = K nmm F) (n2 : I c 0 = K nmm Cn) (r1 : I f 1 = K mr F) (r2 : I c 1 = K mr Cn) (s1 : ∀ d, d < af → I fs d = K so (4 * F + d)) (s2 : ∀ i, i < ac → I cs i = K so (4 * Cn + i)) (hct : I ct = K hcn)
    (g1 : 0 ≤ (I f 1).toInt ∧ (I f 1).toInt ≤ 6) (g2 : 0 ≤ (I c 1).toInt ∧ (I c 1).toInt ≤ 6) (g3 : ∀ d, d < 4 → 0 ≤ (I fs d).toInt ∧ (I fs d).toInt ≤ 6) (g4 : ∀ d, d < 4 → 0 ≤ (I cs d).toInt ∧ (I cs d).toInt ≤ 6) (m1 : 0 ≤ (I f 0).toInt ∧ (I f 0).toInt ≤ 99) (m2 : 0 ≤ (I c 0).toInt ∧ (I c 0).toInt ≤ 99)
    (htq : ∀ x y : Int32, 0 ≤ x.toInt ∧ x.toInt ≤ 6 → 0 ≤ y.toInt ∧ y.toInt ≤ 6 → (F_X6_costBetween ru x y I J R).toInt = if (K tcn (7 * x.toNatClampNeg + y.toNatClampNeg)).toInt < 1000000 then (K tcn (7 * x.toNatClampNeg + y.toNatClampNeg)).toInt else -1) (htr : ∀ q, q < 49 → 0 ≤ (K tcn q).toInt ∧ (K tcn q).toInt ≤ 1000000)
    (hal : ∀ a b : Int32, 0 ≤ a.toInt ∧ a.toInt ≤ 99 → 0 ≤ b.toInt ∧ b.toInt ≤ 99 → (F_X0_has al a b I J R = 0 ↔ K alt (100 * a.toNatClampNeg + b.toNatClampNeg) = 0)) :
    svC al ru ct f fs c cs af ac I J R = svO so hcn tcn mr nmm alt F Cn af ac K := by
  have eT : ∀ (z z' : Int), z = z' → tf af (tcC ru fs cs I J R) (hcC ct cs I) ac 0 0 z [] 1000000 = tf af (tcM so tcn F Cn K) (hcM so hcn Cn K) ac 0 0 z' [] 1000000 := fun z z' hz => by
    rw [hz]
    refine tf_congr (n := ac) (fun d i hd hi => ?_) (fun i hi => ?_) ac 0 0 z' 1000000 [] (by omega)
    · unfold tcC tcM
      rw [if_pos ⟨by omega, by omega⟩, if_pos ⟨by omega, by omega⟩, htq _ _ (g3 d (by omega)) (g4 i (by omega)), s1 d hd, s2 i hi]
    · unfold hcC hcM
      rw [s2 i hi, hct]
  have eR := htq (I c 1) (I f 1) g2 g1
  have hA := hal (I f 0) (I c 0) m1 m2
  have hrs : rsM tcn mr F Cn K = (K tcn (7 * (I c 1).toNatClampNeg + (I f 1).toNatClampNeg)).toInt := by unfold rsM; rw [r1, r2]
  rw [← hrs] at eR
  have b1 := nat_of g1.1
  have b2 := nat_of g2.1
  have hr0 := htr (7 * (I c 1).toNatClampNeg + (I f 1).toNatClampNeg) (by omega)
  rw [← hrs] at hr0
  unfold svC stC svO nmO
  rw [← n1, ← n2]
  generalize F_X6_costBetween ru (I c 1) (I f 1) I J R = cb at *
  by_cases hlt : rsM tcn mr F Cn K < 1000000
  · rw [if_pos hlt] at eR
    have hne : ¬ cb = -1 := by rw [ieq, eR, cIm1]; omega
    by_cases e : I f 0 = I c 0
    · simp only [if_pos e, if_neg hne]
      exact eT _ _ (by rw [eR]; omega)
    · simp only [if_neg e, if_neg hne]
      by_cases z : F_X0_has al (I f 0) (I c 0) I J R = 0
      · simp only [if_pos z, if_pos (hA.mp z)]
      · simp only [if_neg z, if_neg (fun q => z (hA.mpr q))]
        exact eT _ _ (by rw [eR])
  · rw [if_neg hlt] at eR
    have hcb : cb = -1 := by rw [ieq, eR, cIm1]
    have pr : ∀ z : Int, 0 ≤ z → tf af (tcM so tcn F Cn K) (hcM so hcn Cn K) ac 0 0 (rsM tcn mr F Cn K + z) [] 1000000 = none := fun z hz => tf_prune _ _ _ _ _ _ (by omega)
    by_cases e : I f 0 = I c 0
    · simp only [if_pos e, if_pos hcb]
      exact (pr 0 (by omega)).symm
    · simp only [if_neg e, if_pos hcb]
      by_cases z : F_X0_has al (I f 0) (I c 0) I J R = 0
      · simp only [if_pos z, if_pos (hA.mp z)]
      · simp only [if_neg z, if_neg (fun q => z (hA.mpr q))]
        exact (pr 2 (by omega)).symm
