/-! the model tries one row of places after another -/
def lt1 (af tk k : Nat) : Int := if k < af ∧ tk / 2 ^ k % 2 = 0 then 4 else 0
def lsm (af tk : Nat) : Nat → Int
  | 0 => 0
  | k + 1 => lsm af tk k + lt1 af tk k
theorem lsm_b {af tk : Nat} : ∀ k : Nat, 0 ≤ lsm af tk k ∧ lsm af tk k ≤ 4 * (k : Int) := by
  intro k
  induction k with
  | zero => exact ⟨Int.le_refl _, Int.le_refl _⟩
  | succ k ih =>
    show 0 ≤ lsm af tk k + lt1 af tk k ∧ lsm af tk k + lt1 af tk k ≤ _
    unfold lt1
    split <;> omega
theorem lsm_all {af tk : Nat} (h : af ≤ 4) : lsm af tk af = lft af tk := by
  rcases (by omega : af = 0 ∨ af = 1 ∨ af = 2 ∨ af = 3 ∨ af = 4) with rfl | rfl | rfl | rfl | rfl <;> simp [lsm, lt1, lft]
section MF
variable {I : hI} {J : hJ} {R : hR} {mo my pl so hcn tcn : Nat}
theorem left_l (v10 : R mo 10 = some my) {x1 x2 y7 y3 y5 y4 y6 : Int32} {b1 b2 F af tk : Nat} (h1 : x1.toInt = F) (ha : (I my F).toInt = af) (ha4 : af ≤ 4) (ht : tk < 2 ^ af) {xtk : Int32} (hx : xtk.toInt = tk) {a0 : Int} (h0 : 0 ≤ a0) (h9 : a0 ≤ 10000000) :
    ∀ (g j : Nat) (xa xj : Int32), xj.toInt = j → j ≤ af → af < g + j → xa.toInt = a0 + lsm af tk j → (F_X11_costOf_176 mo x1 x2 y7 y3 y5 b1 b2 y4 y6 g I J R xa xtk xj).toInt = a0 + lft af tk := by
  intro g
  induction g with
  | zero => intro j xa xj _ h1 h2; omega
  | succ g ih =>
    intro j xa xj hj hja hg hxa
    rw [F_X11_costOf_176_s]
    simp only [B_X11_costOf_176, F_X11_costOf_203, nm, v10, Option.getD_some, clamp_toInt h1]
    by_cases e : j = af
    · rw [if_pos (by rw [ile, ha, hj]; omega), hxa, e, lsm_all ha4]
    · rw [if_neg (by rw [ile, ha, hj]; omega)]
      have a16 : 2 ^ af ≤ 16 := pow16 ⟨af, by omega⟩
      have bt := bitT ⟨tk, by omega⟩ ⟨j, by omega⟩
      rw [← i32N hx (by omega), ← i32N hj (by omega)] at bt
      have bt : (xtk >>> (xj &&& 31)) &&& 1 = Int32.ofNat (tk / 2 ^ j % 2) := bt
      rw [bt]
      have hl := lsm_b (af := af) (tk := tk) j
      have j1 : (xj + 1).toInt = ((j + 1 : Nat) : Int) := by rw [add1 (b := 5) (by omega) (by omega), hj]; omega
      by_cases hb : tk / 2 ^ j % 2 = 0
      · rw [hb, if_pos (show Int32.ofNat 0 = 0 from rfl)]
        refine ih (j + 1) _ _ j1 (by omega) (by omega) ?_
        rw [iadd hxa cI4 (by omega) (by omega)]
        show _ = a0 + (lsm af tk j + lt1 af tk j)
        unfold lt1
        rw [if_pos ⟨by omega, hb⟩]
        omega
      · rw [show tk / 2 ^ j % 2 = 1 by omega, if_neg (show ¬ Int32.ofNat 1 = 0 by decide)]
        refine ih (j + 1) _ _ j1 (by omega) (by omega) ?_
        rw [iadd hxa cI0 (by omega) (by omega)]
        show _ = a0 + (lsm af tk j + lt1 af tk j)
        unfold lt1
        rw [if_neg (fun q => hb q.2)]
        omega
noncomputable def tcM (so tcn F Cn : Nat) (I : hI) (d i : Nat) : Int := if d < 4 ∧ i < 4 then (if (I tcn (7 * (I so (4 * F + d)).toNatClampNeg + (I so (4 * Cn + i)).toNatClampNeg)).toInt < 1000000 then (I tcn (7 * (I so (4 * F + d)).toNatClampNeg + (I so (4 * Cn + i)).toNatClampNeg)).toInt else -1) else -1
noncomputable def hcM (so hcn Cn : Nat) (I : hI) (i : Nat) : Bool := decide (I hcn (I so (4 * Cn + i)).toNatClampNeg ≠ 0)
set_option maxHeartbeats 4000000 in
theorem cost_l (v10 : R mo 10 = some my) (v38 : R mo 38 = some pl) (v11 : R mo 11 = some so) (v19 : R mo 19 = some hcn) {x1 x2 y7 y3 y5 y4 y6 : Int32} {b2 F Cn af ac : Nat} (h1 : x1.toInt = F) (h2 : x2.toInt = Cn) (hF : F < 120) (hC : Cn < 120) (ha : (I my F).toInt = af) (ha4 : af ≤ 4) (hc : (I my Cn).toInt = ac) (hc4 : ac ≤ 4)
    (hso : ∀ q, q < 480 → 0 ≤ (I so q).toInt ∧ (I so q).toInt ≤ 6) (htt : ∀ q, q < 49 → 0 ≤ (I tcn q).toInt ∧ (I tcn q).toInt ≤ 1000000) :
    ∀ (l : List Nat) (g i tk : Nat) (xa xt xi : Int32) (acc : Int), xi.toInt = i → i + l.length = ac → l.length < g → (∀ j, j < l.length → (I pl (i + j)).toInt = (l.getD j 0 : Nat) ∧ l.getD j 0 ≤ 4) → xa.toInt = acc → 0 ≤ acc → acc ≤ 1000002 + 1000001 * (i : Int) → xt.toInt = tk → tk < 2 ^ af →
      acc ≤ (F_X11_costOf_28 mo x1 x2 y7 y3 y5 tcn b2 y4 y6 g I J R xa xt xi).toInt ∧ (∀ z, ct af (tcM so tcn F Cn I) (hcM so hcn Cn I) i tk acc l = some z → (F_X11_costOf_28 mo x1 x2 y7 y3 y5 tcn b2 y4 y6 g I J R xa xt xi).toInt = z) ∧ (ct af (tcM so tcn F Cn I) (hcM so hcn Cn I) i tk acc l = none → 1000000 ≤ (F_X11_costOf_28 mo x1 x2 y7 y3 y5 tcn b2 y4 y6 g I J R xa xt xi).toInt) ∧ (F_X11_costOf_28 mo x1 x2 y7 y3 y5 tcn b2 y4 y6 g I J R xa xt xi).toInt ≤ 100000000 := by
  intro l
  induction l with
  | nil =>
    intro g i tk xa xt xi acc hi hl hg hd hxa h0 h9 hxt htk
    obtain ⟨g', rfl⟩ : ∃ g', g = g' + 1 := ⟨g - 1, by omega⟩
    rw [F_X11_costOf_28_s]
    simp only [B_X11_costOf_28, nm, v10, Option.getD_some, clamp_toInt h2]
    simp only [List.length_nil, Nat.add_zero] at hl
    rw [if_pos (by rw [ile, hc, hi]; omega)]
    have e := left_l (J := J) v10 (x2 := x2) (y7 := y7) (y3 := y3) (y5 := y5) (y4 := y4) (y6 := y6) (b1 := tcn) (b2 := b2) h1 ha ha4 htk hxt h0 (by omega) 5 0 xa 0 (by decide) (by omega) (by omega) (by rw [hxa]; show acc = acc + 0; omega)
    have e : (F_X11_costOf_176 mo x1 x2 y7 y3 y5 tcn b2 y4 y6 ((4 - (0 : Int32).toInt).toNat + 1) I J R xa xt 0).toInt = acc + lft af tk := e
    have lb := lft_nn af tk
    rw [e]
    refine ⟨by omega, fun z hz => ?_, fun hz => ?_, by omega⟩
    · have hz : some (acc + lft af tk) = some z := hz
      cases hz; rfl
    · cases hz
  | cons d l ih =>
    intro g i tk xa xt xi acc hi hl hg hd hxa h0 h9 hxt htk
    simp only [List.length_cons] at hl hg hd
    obtain ⟨g', rfl⟩ : ∃ g', g = g' + 1 := ⟨g - 1, by omega⟩
    rw [F_X11_costOf_28_s]
    have hi1 : xi.toNatClampNeg = i := clamp_toInt hi
    have d0 := hd 0 (by omega)
    have d0 : (I pl i).toInt = (d : Int) ∧ d ≤ 4 := d0
    have hd' : ∀ j, j < l.length → (I pl (i + 1 + j)).toInt = (l.getD j 0 : Nat) ∧ l.getD j 0 ≤ 4 := fun j hj => by
      have := hd (j + 1) (by omega)
      rw [show i + (j + 1) = i + 1 + j by omega] at this
      exact this
    have s1 : (4 * x2 + xi).toNatClampNeg = 4 * Cn + i := clamp_toInt (by rw [iadd (imul (x := 4) cI4 h2 (by omega) (by omega)) hi (by omega) (by omega)]; omega)
    have i1 : (xi + 1).toInt = ((i + 1 : Nat) : Int) := by rw [add1 (b := 5) (by omega) (by omega), hi]; omega
    simp only [B_X11_costOf_28, F_X11_costOf_85, F_X11_costOf_112, F_X11_costOf_164, F_X11_costOf_167, nm, v10, v38, v11, v19, Option.getD_some, clamp_toInt h1, clamp_toInt h2, hi1, s1]
    rw [if_neg (by rw [ile, hc, hi]; omega)]
    have cM : Int32.toInt 1000000 = 1000000 := by decide
    -- a row that can't be: a FAR is added
    have bad : ∀ (xa' xt' : Int32) (tk' : Nat) (acc' : Int), xa'.toInt = acc' → acc + 1000000 ≤ acc' → acc' ≤ 1000002 + 1000001 * ((i + 1 : Nat) : Int) → xt'.toInt = tk' → tk' < 2 ^ af → inc af (tcM so tcn F Cn I) (hcM so hcn Cn I) i d tk = none →
        acc ≤ (F_X11_costOf_28 mo x1 x2 y7 y3 y5 tcn b2 y4 y6 g' I J R xa' xt' (xi + 1)).toInt ∧ (∀ z, ct af (tcM so tcn F Cn I) (hcM so hcn Cn I) i tk acc (d :: l) = some z → (F_X11_costOf_28 mo x1 x2 y7 y3 y5 tcn b2 y4 y6 g' I J R xa' xt' (xi + 1)).toInt = z) ∧ (ct af (tcM so tcn F Cn I) (hcM so hcn Cn I) i tk acc (d :: l) = none → 1000000 ≤ (F_X11_costOf_28 mo x1 x2 y7 y3 y5 tcn b2 y4 y6 g' I J R xa' xt' (xi + 1)).toInt) ∧ (F_X11_costOf_28 mo x1 x2 y7 y3 y5 tcn b2 y4 y6 g' I J R xa' xt' (xi + 1)).toInt ≤ 100000000 := fun xa' xt' tk' acc' a1 a2 a3 a4 a5 hn => by
      have q := ih g' (i + 1) tk' xa' xt' (xi + 1) acc' i1 (by omega) (by omega) hd' a1 (by omega) a3 a4 a5
      refine ⟨by omega, fun z hz => ?_, fun _ => by omega, q.2.2.2⟩
      simp only [ct, hn] at hz
      cases hz
    have good : ∀ (xa' xt' : Int32) (x : Int), xa'.toInt = acc + x → acc + x ≤ 1000002 + 1000001 * ((i + 1 : Nat) : Int) → xt'.toInt = upt tk d → upt tk d < 2 ^ af → inc af (tcM so tcn F Cn I) (hcM so hcn Cn I) i d tk = some x →
        acc ≤ (F_X11_costOf_28 mo x1 x2 y7 y3 y5 tcn b2 y4 y6 g' I J R xa' xt' (xi + 1)).toInt ∧ (∀ z, ct af (tcM so tcn F Cn I) (hcM so hcn Cn I) i tk acc (d :: l) = some z → (F_X11_costOf_28 mo x1 x2 y7 y3 y5 tcn b2 y4 y6 g' I J R xa' xt' (xi + 1)).toInt = z) ∧ (ct af (tcM so tcn F Cn I) (hcM so hcn Cn I) i tk acc (d :: l) = none → 1000000 ≤ (F_X11_costOf_28 mo x1 x2 y7 y3 y5 tcn b2 y4 y6 g' I J R xa' xt' (xi + 1)).toInt) ∧ (F_X11_costOf_28 mo x1 x2 y7 y3 y5 tcn b2 y4 y6 g' I J R xa' xt' (xi + 1)).toInt ≤ 100000000 := fun xa' xt' x a1 a3 a4 a5 hn => by
      have hx := inc_nn hn
      have q := ih g' (i + 1) (upt tk d) xa' xt' (xi + 1) (acc + x) i1 (by omega) (by omega) hd' a1 (by omega) a3 a4 a5
      have e : ct af (tcM so tcn F Cn I) (hcM so hcn Cn I) i tk acc (d :: l) = ct af (tcM so tcn F Cn I) (hcM so hcn Cn I) (i + 1) (upt tk d) (acc + x) l := by simp only [ct, hn]
      rw [e]
      exact ⟨by omega, q.2.1, q.2.2.1, q.2.2.2⟩
    have so1 := hso (4 * Cn + i) (by omega)
    by_cases c4 : d = 4
    · rw [if_pos (show I pl i = 4 by rw [ieq, d0.1, c4]; decide)]
      by_cases hh : I hcn (I so (4 * Cn + i)).toNatClampNeg = 0
      · rw [if_pos hh]
        refine bad _ _ tk (acc + 1000000) (by rw [iadd hxa cM (by omega) (by omega)]) (by omega) (by omega) hxt htk ?_
        unfold inc
        rw [if_pos c4, if_neg (by unfold hcM; rw [decide_eq_true_iff]; exact fun q => q hh)]
      · rw [if_neg hh]
        have u4 : upt tk d = tk := if_pos c4
        refine good _ _ 7 (by rw [iadd hxa (show Int32.toInt 7 = 7 by decide) (by omega) (by omega)]) (by omega) (by rw [u4]; exact hxt) (by rw [u4]; exact htk) ?_
        unfold inc
        rw [if_pos c4, if_pos (by unfold hcM; rw [decide_eq_true_iff]; exact hh)]
    · rw [if_neg (show ¬ I pl i = 4 by rw [ieq, d0.1, cI4]; omega)]
      by_cases hda : af ≤ d
      · rw [if_pos (show I my F ≤ I pl i by rw [ile, ha, d0.1]; omega)]
        refine bad _ _ tk (acc + 1000000) (by rw [iadd hxa cM (by omega) (by omega)]) (by omega) (by omega) hxt htk ?_
        unfold inc
        rw [if_neg c4, if_neg (by omega)]
      · rw [if_neg (show ¬ I my F ≤ I pl i by rw [ile, ha, d0.1]; omega)]
        have a16 : 2 ^ af ≤ 16 := pow16 ⟨af, by omega⟩
        have bt := bitT ⟨tk, by omega⟩ ⟨d, by omega⟩
        rw [← i32N hxt (by omega), ← i32N d0.1 (by omega)] at bt
        have bt : (xt >>> (I pl i &&& 31)) &&& 1 = Int32.ofNat (tk / 2 ^ d % 2) := bt
        rw [bt]
        by_cases hb : tk / 2 ^ d % 2 = 0
        · rw [hb, if_neg (show ¬ Int32.ofNat 0 = 1 by decide)]
          have bs := bitS ⟨tk, by omega⟩ ⟨d, by omega⟩ hb
          rw [← i32N hxt (by omega), ← i32N d0.1 (by omega)] at bs
          have bs : (xt ||| ((1 : Int32) <<< (I pl i &&& 31))) = Int32.ofNat (tk + 2 ^ d) := bs
          have bu : tk + 2 ^ d < 2 ^ af := bitU ⟨af, by omega⟩ ⟨tk, by omega⟩ ⟨d, by omega⟩ htk (by show d < af; omega) hb
          have up : upt tk d = tk + 2 ^ d := if_neg c4
          have s2 : (4 * x1 + I pl i).toNatClampNeg = 4 * F + d := clamp_toInt (by rw [iadd (imul (x := 4) cI4 h1 (by omega) (by omega)) d0.1 (by omega) (by omega)]; omega)
          rw [s2]
          have so2 := hso (4 * F + d) (by omega)
          obtain ⟨p, hp⟩ : ∃ p : Nat, p = (I so (4 * F + d)).toNatClampNeg := ⟨_, rfl⟩
          obtain ⟨q, hq⟩ : ∃ q : Nat, q = (I so (4 * Cn + i)).toNatClampNeg := ⟨_, rfl⟩
          have hp1 : (I so (4 * F + d)).toInt = p := by rw [hp]; exact (nat_of so2.1).symm
          have hq1 : (I so (4 * Cn + i)).toInt = q := by rw [hq]; exact (nat_of so1.1).symm
          have s3 : (7 * I so (4 * F + d) + I so (4 * Cn + i)).toNatClampNeg = 7 * p + q := clamp_toInt (by rw [iadd (imul (x := 7) cI7 hp1 (by omega) (by omega)) hq1 (by omega) (by omega)]; omega)
          rw [s3]
          have tb := htt (7 * p + q) (by omega)
          have ht : tcM so tcn F Cn I d i = if (I tcn (7 * p + q)).toInt < 1000000 then (I tcn (7 * p + q)).toInt else -1 := by
            unfold tcM
            rw [if_pos ⟨by omega, by omega⟩, ← hp, ← hq]
          have fin : ∀ y : Int32, y.toInt = (if d = i then 0 else 1 : Int) →
              acc ≤ (F_X11_costOf_28 mo x1 x2 y7 y3 y5 tcn b2 y4 y6 g' I J R (xa + (I tcn (7 * p + q) + y)) (xt ||| ((1 : Int32) <<< (I pl i &&& 31))) (xi + 1)).toInt ∧ (∀ z, ct af (tcM so tcn F Cn I) (hcM so hcn Cn I) i tk acc (d :: l) = some z → (F_X11_costOf_28 mo x1 x2 y7 y3 y5 tcn b2 y4 y6 g' I J R (xa + (I tcn (7 * p + q) + y)) (xt ||| ((1 : Int32) <<< (I pl i &&& 31))) (xi + 1)).toInt = z) ∧ (ct af (tcM so tcn F Cn I) (hcM so hcn Cn I) i tk acc (d :: l) = none → 1000000 ≤ (F_X11_costOf_28 mo x1 x2 y7 y3 y5 tcn b2 y4 y6 g' I J R (xa + (I tcn (7 * p + q) + y)) (xt ||| ((1 : Int32) <<< (I pl i &&& 31))) (xi + 1)).toInt) ∧ (F_X11_costOf_28 mo x1 x2 y7 y3 y5 tcn b2 y4 y6 g' I J R (xa + (I tcn (7 * p + q) + y)) (xt ||| ((1 : Int32) <<< (I pl i &&& 31))) (xi + 1)).toInt ≤ 100000000 := fun y hy => by
            have hy2 : 0 ≤ (if d = i then 0 else 1 : Int) ∧ (if d = i then 0 else 1 : Int) ≤ 1 := by split <;> omega
            have ea : (xa + (I tcn (7 * p + q) + y)).toInt = acc + ((I tcn (7 * p + q)).toInt + if d = i then 0 else 1) := iadd hxa (iadd rfl hy (by omega) (by omega)) (by omega) (by omega)
            have et : (xt ||| ((1 : Int32) <<< (I pl i &&& 31))).toInt = ((tk + 2 ^ d : Nat) : Int) := by rw [bs, Int32.toInt_ofNat_of_lt (by omega)]
            by_cases hlt : (I tcn (7 * p + q)).toInt < 1000000
            · rw [if_pos hlt] at ht
              refine good _ _ ((I tcn (7 * p + q)).toInt + if d = i then 0 else 1) ea (by omega) (by rw [up]; exact et) (by rw [up]; exact bu) ?_
              unfold inc
              rw [if_neg c4, if_pos ⟨by omega, hb, by rw [ht]; exact tb.1⟩, ht]
            · rw [if_neg hlt] at ht
              refine bad _ _ (tk + 2 ^ d) _ ea (by omega) (by omega) et bu ?_
              unfold inc
              rw [if_neg c4, if_neg (by rw [ht]; omega)]
          by_cases hdi : d = i
          · rw [if_pos (show xi = I pl i by rw [ieq, hi, d0.1, hdi])]
            exact fin 0 (by rw [if_pos hdi]; decide)
          · rw [if_neg (show ¬ xi = I pl i by rw [ieq, hi, d0.1]; omega)]
            exact fin 1 (by rw [if_neg hdi]; decide)
        · rw [show tk / 2 ^ d % 2 = 1 by omega, if_pos (show Int32.ofNat 1 = 1 from rfl)]
          refine bad _ _ tk (acc + 1000000) (by rw [iadd hxa cM (by omega) (by omega)]) (by omega) (by omega) hxt htk ?_
          unfold inc
          rw [if_neg c4, if_neg (fun q => hb q.2.1)]
end MF
