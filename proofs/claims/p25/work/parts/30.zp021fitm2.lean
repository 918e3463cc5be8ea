/-! the next row of places, and the best of all rows -/
section NP
variable {J : hJ} {R : hR} {mo my pl : Nat} {x1 y2 y1 : Int32}
theorem np_some : ∀ (r g k d : Nat) (I : hI) (x : Int32), r < g → x.toInt = ((k + r : Nat) : Int) → k + r < 4 → (I pl k).toInt = d → d < 4 → (∀ j, k < j → j ≤ k + r → I pl j = 4) →
    ∃ I1, F_X11_nextPlaces_9 mo x1 y2 y1 pl my g I J R x = (1, (I1, J, R)) ∧ (∀ c, c ≠ pl → I1 c = I c) ∧ (I1 pl k).toInt = ((d + 1 : Nat) : Int) ∧ (∀ j, k < j → j ≤ k + r → I1 pl j = 0) ∧ (∀ j, j < k ∨ k + r < j → I1 pl j = I pl j) := by
  intro r
  induction r with
  | zero =>
    intro g k d I x hg hx hk hd hd4 h4
    obtain ⟨g', rfl⟩ : ∃ g', g = g' + 1 := ⟨g - 1, by omega⟩
    rw [F_X11_nextPlaces_9_s]
    have hx : x.toInt = (k : Int) := hx
    simp only [B_X11_nextPlaces_9, nm, clamp_toInt hx]
    rw [if_neg (by rw [ilt, hx, cI0]; omega), if_neg (show ¬ I pl k = 4 by rw [ieq, hd, cI4]; omega), if_pos (by rw [ile, hx, cI0]; omega)]
    refine ⟨_, rfl, fun c hc => u2_ne hc, ?_, fun j h1 h2 => by omega, fun j hj => u2_nk (by omega)⟩
    rw [u2_at, add1 (b := 4) (by omega) (by omega), hd]
    omega
  | succ r ih =>
    intro g k d I x hg hx hk hd hd4 h4
    obtain ⟨g', rfl⟩ : ∃ g', g = g' + 1 := ⟨g - 1, by omega⟩
    rw [F_X11_nextPlaces_9_s]
    simp only [B_X11_nextPlaces_9, nm, clamp_toInt hx]
    rw [if_neg (by rw [ilt, hx, cI0]; omega), if_pos (h4 (k + (r + 1)) (by omega) (by omega))]
    obtain ⟨I1, a1, a2, a3, a4, a5⟩ := ih g' k d (u2 I pl (k + (r + 1)) 0) (x + -1) (by omega) (by rw [iadd hx cIm1 (by omega) (by omega)]; omega) (by omega) (by rw [u2_nk (by omega)]; exact hd) hd4 (fun j h1 h2 => by rw [u2_nk (by omega)]; exact h4 j h1 (by omega))
    refine ⟨I1, a1, fun c hc => (a2 c hc).trans (u2_ne hc), a3, fun j h1 h2 => ?_, fun j hj => ?_⟩
    · by_cases e : j = k + (r + 1)
      · rw [a5 j (by omega), e, u2_at]
      · exact a4 j h1 (by omega)
    · rw [a5 j (by omega), u2_nk (by omega)]
theorem np_none : ∀ (r g : Nat) (I : hI) (x : Int32), r < g → x.toInt = (r : Int) - 1 → r ≤ 4 → (∀ j, j < r → I pl j = 4) →
    ∃ I1, F_X11_nextPlaces_9 mo x1 y2 y1 pl my g I J R x = (0, (I1, J, R)) ∧ (∀ c, c ≠ pl → I1 c = I c) := by
  intro r
  induction r with
  | zero =>
    intro g I x hg hx _ _
    obtain ⟨g', rfl⟩ : ∃ g', g = g' + 1 := ⟨g - 1, by omega⟩
    rw [F_X11_nextPlaces_9_s]
    simp only [B_X11_nextPlaces_9, nm]
    rw [if_pos (by rw [ilt, hx, cI0]; omega), if_neg (by rw [ile, hx, cI0]; omega)]
    exact ⟨I, rfl, fun _ _ => rfl⟩
  | succ r ih =>
    intro g I x hg hx hr4 h4
    obtain ⟨g', rfl⟩ : ∃ g', g = g' + 1 := ⟨g - 1, by omega⟩
    rw [F_X11_nextPlaces_9_s]
    have hx : x.toInt = (r : Int) := by rw [hx]; omega
    simp only [B_X11_nextPlaces_9, nm, clamp_toInt hx]
    rw [if_neg (by rw [ilt, hx, cI0]; omega), if_pos (h4 r (by omega))]
    obtain ⟨I1, a1, a2⟩ := ih g' (u2 I pl r 0) (x + -1) (by omega) (by rw [iadd hx cIm1 (by omega) (by omega)]; omega) (by omega) (fun j hj => by rw [u2_nk (by omega)]; exact h4 j (by omega))
    exact ⟨I1, a1, fun c hc => (a2 c hc).trans (u2_ne hc)⟩
end NP
theorem sq_tl {o : Option (Int × List Nat)} {B : Int} {ch : Nat → Int → Option (Int × List Nat)} {n : Nat} : sq o B (fun b => tl5 ch b (n + 1)) = sq (sq o B (fun b => tl5 ch b n)) B (ch n) := by
  cases hx : tl5 ch (bd B o) n with
  | none =>
    rw [sq_none (o := o) (g := fun b => tl5 ch b n) hx]
    cases hy : ch n (bd B o) with
    | none =>
      rw [sq_none hy, sq_none]
      show sq (tl5 ch (bd B o) n) (bd B o) (ch n) = none
      rw [hx]
      exact sq_none hy
    | some q =>
      rw [sq_some hy, sq_some (q := q)]
      show sq (tl5 ch (bd B o) n) (bd B o) (ch n) = some q
      rw [hx]
      exact sq_some hy
  | some p =>
    rw [sq_some (o := o) (g := fun b => tl5 ch b n) hx]
    cases hy : ch n p.1 with
    | none =>
      rw [sq_none (o := some p) hy, sq_some (q := p)]
      show sq (tl5 ch (bd B o) n) (bd B o) (ch n) = some p
      rw [hx]
      exact sq_none hy
    | some q =>
      rw [sq_some (o := some p) hy, sq_some (q := q)]
      show sq (tl5 ch (bd B o) n) (bd B o) (ch n) = some q
      rw [hx]
      exact sq_some hy
theorem ct_sh {af : Nat} {tc : Nat → Nat → Int} {hc : Nat → Bool} {s : Int} : ∀ (l : List Nat) (i tk : Nat) (a : Int), ct af tc hc i tk (a + s) l = (ct af tc hc i tk a l).map (· + s) := by
  intro l
  induction l with
  | nil =>
    intro i tk a
    simp only [ct, Option.map_some]
    rw [show a + s + lft af tk = a + lft af tk + s by omega]
  | cons d l ih =>
    intro i tk a
    simp only [ct]
    cases hx : inc af tc hc i d tk with
    | none => rfl
    | some x =>
      dsimp only
      rw [show a + s + x = a + x + s by omega]
      exact ih _ _ _
def Mcx (R : hR) (mo my pl so hcn tcn mr nmm al bp : Nat) : Prop := R mo 10 = some my ∧ R mo 38 = some pl ∧ R mo 11 = some so ∧ R mo 19 = some hcn ∧ R mo 32 = some tcn ∧ R mo 12 = some mr ∧ R mo 9 = some nmm ∧ R mo 17 = some al ∧ R mo 39 = some bp ∧ (pl ≠ mo ∧ bp ≠ mo ∧ pl ≠ bp) ∧ (my ≠ mo ∧ my ≠ pl ∧ my ≠ bp) ∧ (so ≠ mo ∧ so ≠ pl ∧ so ≠ bp) ∧ (hcn ≠ mo ∧ hcn ≠ pl ∧ hcn ≠ bp) ∧ (tcn ≠ mo ∧ tcn ≠ pl ∧ tcn ≠ bp) ∧ (mr ≠ mo ∧ mr ≠ pl ∧ mr ≠ bp) ∧ (nmm ≠ mo ∧ nmm ≠ pl ∧ nmm ≠ bp) ∧ (al ≠ mo ∧ al ≠ pl ∧ al ≠ bp)
def Mrg (I0 : hI) (my so tcn mr F Cn af ac : Nat) : Prop := F < 120 ∧ Cn < 120 ∧ (I0 my F).toInt = af ∧ af ≤ 4 ∧ (I0 my Cn).toInt = ac ∧ ac ≤ 4 ∧ (∀ q, q < 480 → 0 ≤ (I0 so q).toInt ∧ (I0 so q).toInt ≤ 6) ∧ (∀ q, q < 49 → 0 ≤ (I0 tcn q).toInt ∧ (I0 tcn q).toInt ≤ 1000000) ∧ ∀ q, q < 120 → 0 ≤ (I0 mr q).toInt ∧ (I0 mr q).toInt ≤ 6
def Ms (mo pl bp ac : Nat) (I0 I : hI) (o : Option (Int × List Nat)) : Prop := (∀ z, z ≠ mo → z ≠ pl → z ≠ bp → I z = I0 z) ∧ (∀ k, k ≠ 40 → I mo k = I0 mo k) ∧ ((I mo 40).toInt = bd 1000000 o ∧ bd 1000000 o ≤ 1000000) ∧ ∀ q, o = some q → ∀ j, j < ac → (I bp j).toInt = ((q.2.getD j 0 : Nat) : Int)
theorem Ms.pl {mo pl bp ac : Nat} {I0 I I1 : hI} {o : Option (Int × List Nat)} (h : Ms mo pl bp ac I0 I o) (h1 : pl ≠ mo) (h2 : pl ≠ bp) (hf : ∀ c, c ≠ pl → I1 c = I c) : Ms mo pl bp ac I0 I1 o := by
  obtain ⟨a1, a2, a3, a4⟩ := h
  refine ⟨fun z z1 z2 z3 => (hf z z2).trans (a1 z z1 z2 z3), fun k hk => ?_, ?_, fun q hq j hj => ?_⟩
  · rw [hf mo h1.symm]; exact a2 k hk
  · rw [hf mo h1.symm]; exact a3
  · rw [hf bp h2.symm]; exact a4 q hq j hj
/-- costs of one row, as tcM and hcM of the first state give them -/
def rsM (tcn mr F Cn : Nat) (I : hI) : Int := (I tcn (7 * (I mr Cn).toNatClampNeg + (I mr F).toNatClampNeg)).toInt
section SV
variable {I0 : hI} {J : hJ} {R : hR} {mo my pl so hcn tcn mr nmm al bp F Cn af ac : Nat}
theorem cost1 (cx : Mcx R mo my pl so hcn tcn mr nmm al bp) (rg : Mrg I0 my so tcn mr F Cn af ac) {I : hI} (hn : ∀ z, z ≠ mo → z ≠ pl → z ≠ bp → I z = I0 z) {x1 x2 : Int32} (h1 : x1.toInt = F) (h2 : x2.toInt = Cn) {pre : List Nat} (hl : pre.length = ac) (hp : ∀ j, j < ac → (I pl j).toInt = ((pre.getD j 0 : Nat) : Int) ∧ pre.getD j 0 ≤ 4) :
    0 ≤ (F_X11_costOf mo x1 x2 I J R).toInt ∧ (F_X11_costOf mo x1 x2 I J R).toInt ≤ 100000000 ∧ (∀ z, ct af (tcM so tcn F Cn I0) (hcM so hcn Cn I0) 0 0 (rsM tcn mr F Cn I0) pre = some z → (F_X11_costOf mo x1 x2 I J R).toInt = z) ∧ (ct af (tcM so tcn F Cn I0) (hcM so hcn Cn I0) 0 0 (rsM tcn mr F Cn I0) pre = none → 1000000 ≤ (F_X11_costOf mo x1 x2 I J R).toInt) := by
  obtain ⟨v10, v38, v11, v19, v32, v12, v9, v17, v39, ⟨p1, p2, p3⟩, ⟨my1, my2, my3⟩, ⟨so1, so2, so3⟩, ⟨hc1, hc2, hc3⟩, ⟨tc1, tc2, tc3⟩, ⟨mr1, mr2, mr3⟩, -, -⟩ := cx
  obtain ⟨hF, hC, ha, ha4, hc, hc4, hso, htt, hmr⟩ := rg
  have es := hn so so1 so2 so3
  have et := hn tcn tc1 tc2 tc3
  have eh := hn hcn hc1 hc2 hc3
  have em := hn mr mr1 mr2 mr3
  have ey := hn my my1 my2 my3
  have e1 : tcM so tcn F Cn I0 = tcM so tcn F Cn I := by unfold tcM; rw [es, et]
  have e2 : hcM so hcn Cn I0 = hcM so hcn Cn I := by unfold hcM; rw [es, eh]
  have e3 : rsM tcn mr F Cn I0 = (I tcn (7 * (I mr Cn).toNatClampNeg + (I mr F).toNatClampNeg)).toInt := by unfold rsM; rw [em, et]
  have r1 := hmr Cn hC
  have r2 := hmr F hF
  rw [← em] at r1 r2
  have n1 := nat_of r1.1
  have n2 := nat_of r2.1
  have tb := htt (7 * (I mr Cn).toNatClampNeg + (I mr F).toNatClampNeg) (by omega)
  rw [← et] at tb
  rw [e1, e2, e3]
  simp only [F_X11_costOf, nm, v32, v12, Option.getD_some, clamp_toInt h1, clamp_toInt h2]
  have ic : (7 * I mr Cn + I mr F).toNatClampNeg = 7 * (I mr Cn).toNatClampNeg + (I mr F).toNatClampNeg := clamp_toInt (by rw [iadd (imul (x := 7) cI7 n1.symm (by omega) (by omega)) n2.symm (by omega) (by omega)]; omega)
  rw [ic, show ((4 - Int32.toInt 0).toNat + 1) = 5 by decide]
  have q := cost_l (J := J) (I := I) (tcn := tcn) (y7 := I tcn (7 * (I mr Cn).toNatClampNeg + (I mr F).toNatClampNeg)) (y3 := I mr Cn) (y5 := I mr F) (y4 := 7 * I mr Cn) (y6 := 7 * I mr Cn + I mr F) (b2 := mr) v10 v38 v11 v19 h1 h2 hF hC (by rw [ey]; exact ha) ha4 (by rw [ey]; exact hc) hc4 (by rw [es]; exact hso) (by rw [et]; exact htt) pre 5 0 0 (I tcn (7 * (I mr Cn).toNatClampNeg + (I mr F).toNatClampNeg)) 0 0 _ (by decide) (by omega) (by omega) (fun j hj => by rw [Nat.zero_add]; exact hp j (by omega)) rfl tb.1 (by omega) (by decide) (by have := pow16 ⟨af, by omega⟩; exact Nat.pos_of_ne_zero (by have h2 : 0 < 2 ^ af := Nat.pow_pos (by decide); omega))
  exact ⟨by have := tb.1; have := q.1; omega, q.2.2.2, q.2.1, q.2.2.1⟩
/-- the places are kept as the best ones -/
theorem pcopy_l {b3 : Nat} {x1 x2 y5 y4 x3 x4 : Int32} {k : hI → hJ → hR → Int32 → Int32 → (Int32 × hU)} (v39 : R mo 39 = some bp) (hpb : pl ≠ bp) : ∀ (g j : Nat) (I : hI) (xj : Int32), xj.toInt = j → j ≤ 4 → 4 < g + j → (∀ i, i < j → I bp i = I pl i) →
    ∃ I1, F_X11_serve_124 mo x1 x2 y5 y4 pl b3 x3 x4 k g I J R xj = F_X11_serve_150 mo x1 x2 y5 y4 pl b3 x3 x4 k I1 J R ∧ (∀ c, c ≠ bp → I1 c = I c) ∧ ∀ i, i < 4 → I1 bp i = I pl i := by
  intro g
  induction g with
  | zero => intro j I xj _ h1 h2; omega
  | succ g ih =>
    intro j I xj hj hj4 hg hI
    rw [F_X11_serve_124_s]
    simp only [B_X11_serve_124, nm, v39, Option.getD_some, clamp_toInt hj]
    by_cases e : j = 4
    · rw [if_pos (by rw [ile, hj, cI4]; omega)]
      exact ⟨I, rfl, fun _ _ => rfl, fun i hi => hI i (by omega)⟩
    · rw [if_neg (by rw [ile, hj, cI4]; omega)]
      obtain ⟨I1, a1, a2, a3⟩ := ih (j + 1) (u2 I bp j (I pl j)) (xj + 1) (by rw [add1 (b := 4) (by omega) (by omega), hj]; omega) (by omega) (by omega) (fun i hi => by
        rw [u2_ne hpb]
        by_cases z : i = j
        · rw [z, u2_at]
        · rw [u2_nk z]; exact hI i (by omega))
      refine ⟨I1, a1, fun c hc => (a2 c hc).trans (u2_ne hc), fun i hi => ?_⟩
      rw [a3 i hi, u2_ne hpb]
/-- one row: its cost is compared, then the next -/
theorem row1 (cx : Mcx R mo my pl so hcn tcn mr nmm al bp) (rg : Mrg I0 my so tcn mr F Cn af ac) {I : hI} {x1 x2 y5 y4 x3 : Int32} {nme : Int} {b3 g : Nat} {o : Option (Int × List Nat)} {pre : List Nat} (hm : Ms mo pl bp ac I0 I o) (h1 : x1.toInt = F) (h2 : x2.toInt = Cn) (h3 : x3.toInt = nme) (h30 : 0 ≤ nme ∧ nme ≤ 2) (hl : pre.length = ac) (hp : ∀ j, j < ac → (I pl j).toInt = ((pre.getD j 0 : Nat) : Int) ∧ pre.getD j 0 ≤ 4) :
    ∃ I1, F_X11_serve_91 mo x1 x2 y5 y4 pl b3 (g + 1) I J R x3 1 = F_X11_serve_150 mo x1 x2 y5 y4 pl b3 x3 1 (F_X11_serve_91 mo x1 x2 y5 y4 pl b3 g) I1 J R ∧ Ms mo pl bp ac I0 I1 (sq o 1000000 (mf af (tcM so tcn F Cn I0) (hcM so hcn Cn I0) (rsM tcn mr F Cn I0 + nme) 0 pre)) ∧ I1 pl = I pl := by
  have c1 := cost1 (J := J) cx rg hm.1 h1 h2 hl hp
  obtain ⟨q1, q2, q3, q4⟩ := c1
  have rg0 := rg
  obtain ⟨-, v38, -, -, -, -, -, -, v39, ⟨p1, p2, p3⟩, -⟩ := cx
  rw [F_X11_serve_91_s]
  simp only [B_X11_serve_91, nm]
  rw [if_neg (show ¬ (1 : Int32) = 0 by decide)]
  have hs : (F_X11_costOf mo x1 x2 I J R + x3).toInt = (F_X11_costOf mo x1 x2 I J R).toInt + nme := iadd rfl h3 (by omega) (by omega)
  have em : mf af (tcM so tcn F Cn I0) (hcM so hcn Cn I0) (rsM tcn mr F Cn I0 + nme) 0 pre (bd 1000000 o) = match (ct af (tcM so tcn F Cn I0) (hcM so hcn Cn I0) 0 0 (rsM tcn mr F Cn I0) pre).map (· + nme) with
      | none => none
      | some z => if z < bd 1000000 o then some (z, pre) else none := by
    rw [← ct_sh]; rfl
  obtain ⟨m1, m2, ⟨m3, m4⟩, m5⟩ := hm
  by_cases hle : I mo 40 ≤ F_X11_costOf mo x1 x2 I J R + x3
  · rw [if_pos hle]
    have hle := Rg_le hle
    rw [hs, m3] at hle
    refine ⟨I, rfl, ?_, rfl⟩
    rw [sq_none]
    · exact ⟨m1, m2, ⟨m3, m4⟩, m5⟩
    · rw [em]
      cases hx : ct af (tcM so tcn F Cn I0) (hcM so hcn Cn I0) 0 0 (rsM tcn mr F Cn I0) pre with
      | none => rfl
      | some z =>
        have := q3 z hx
        exact if_neg (show ¬ z + nme < bd 1000000 o by omega)
  · rw [if_neg hle]
    have hlt := Rg_nle hle
    rw [hs, m3] at hlt
    cases hx : ct af (tcM so tcn F Cn I0) (hcM so hcn Cn I0) 0 0 (rsM tcn mr F Cn I0) pre with
    | none => have := q4 hx; omega
    | some z =>
      have hz := q3 z hx
      have em : mf af (tcM so tcn F Cn I0) (hcM so hcn Cn I0) (rsM tcn mr F Cn I0 + nme) 0 pre (bd 1000000 o) = some (z + nme, pre) := by
        rw [em, hx]
        exact if_pos (show z + nme < bd 1000000 o by omega)
      rw [sq_some em]
      obtain ⟨I1, a1, a2, a3⟩ := pcopy_l (J := J) (R := R) (mo := mo) (pl := pl) (bp := bp) (b3 := b3) (x1 := x1) (x2 := x2) (y5 := y5) (y4 := y4) (x3 := x3) (x4 := 1) (k := F_X11_serve_91 mo x1 x2 y5 y4 pl b3 g) v39 p3 5 0 (u2 I mo 40 (F_X11_costOf mo x1 x2 I J R + x3)) 0 (by decide) (by omega) (by omega) (fun i hi => by omega)
      refine ⟨I1, a1, ⟨fun z1 k1 k2 k3 => ?_, fun k hk => ?_, ⟨?_, ?_⟩, fun q hq j hj => ?_⟩, ?_⟩
      · rw [a2 z1 k3, u2_ne k1]; exact m1 z1 k1 k2 k3
      · rw [a2 mo p2.symm, u2_nk hk]; exact m2 k hk
      · rw [a2 mo p2.symm, u2_at, hs, hz]; rfl
      · show z + nme ≤ 1000000
        omega
      · cases hq
        have := rg0.2.2.2.2.2.1
        rw [a3 j (by omega), u2_ne p1]
        exact (hp j hj).1
      · rw [a2 pl p3, u2_ne p1]
theorem next1 (cx : Mcx R mo my pl so hcn tcn mr nmm al bp) (rg : Mrg I0 my so tcn mr F Cn af ac) {I : hI} (hn : ∀ z, z ≠ mo → z ≠ pl → z ≠ bp → I z = I0 z) {x1 x2 y5 y4 x3 x4 : Int32} {b3 i r d : Nat} {k : hI → hJ → hR → Int32 → Int32 → (Int32 × hU)} (h2 : x2.toInt = Cn) (hac : ac = i + (r + 1)) (hd : (I pl i).toInt = d) (hd4 : d < 4) (h4 : ∀ j, i < j → j < ac → I pl j = 4) :
    ∃ I1, F_X11_serve_150 mo x1 x2 y5 y4 pl b3 x3 x4 k I J R = k I1 J R x3 1 ∧ (∀ c, c ≠ pl → I1 c = I c) ∧ (I1 pl i).toInt = ((d + 1 : Nat) : Int) ∧ (∀ j, i < j → j < ac → I1 pl j = 0) ∧ ∀ j, j < i → I1 pl j = I pl j := by
  obtain ⟨v10, v38, -, -, -, -, -, -, -, -, ⟨my1, my2, my3⟩, -⟩ := cx
  have hc := rg.2.2.2.2.1
  have hc4 := rg.2.2.2.2.2.1
  have ey := hn my my1 my2 my3
  have hy : (I my Cn).toInt = ac := by rw [ey]; exact hc
  have hy1 : (I my Cn - 1).toInt = ((i + r : Nat) : Int) := by rw [isub hy cI1 (by omega) (by omega)]; omega
  obtain ⟨I1, a1, a2, a3, a4, a5⟩ := np_some (J := J) (R := R) (mo := mo) (my := my) (pl := pl) (x1 := x2) (y2 := I my Cn - 1) (y1 := I my Cn) r (((I my Cn - 1).toInt + 1).toNat + 1) i d I (I my Cn - 1) (by omega) hy1 (by omega) hd hd4 (fun j z1 z2 => h4 j z1 (by omega))
  simp only [F_X11_serve_150, F_X11_nextPlaces, nm, nmU, v10, v38, Option.getD_some, clamp_toInt h2]
  rw [a1]
  dsimp only
  rw [if_pos (show (1 : Int32) = 1 from rfl)]
  exact ⟨I1, rfl, a2, a3, fun j z1 z2 => a4 j z1 (by omega), fun j z1 => a5 j (Or.inl z1)⟩
theorem next0 (cx : Mcx R mo my pl so hcn tcn mr nmm al bp) (rg : Mrg I0 my so tcn mr F Cn af ac) {I : hI} (hn : ∀ z, z ≠ mo → z ≠ pl → z ≠ bp → I z = I0 z) {x1 x2 y5 y4 x3 x4 : Int32} {b3 : Nat} {k : hI → hJ → hR → Int32 → Int32 → (Int32 × hU)} (h2 : x2.toInt = Cn) (h4 : ∀ j, j < ac → I pl j = 4) :
    ∃ I1, F_X11_serve_150 mo x1 x2 y5 y4 pl b3 x3 x4 k I J R = k I1 J R x3 0 ∧ (∀ c, c ≠ pl → I1 c = I c) := by
  obtain ⟨v10, v38, -, -, -, -, -, -, -, -, ⟨my1, my2, my3⟩, -⟩ := cx
  have hc := rg.2.2.2.2.1
  have hc4 := rg.2.2.2.2.2.1
  have ey := hn my my1 my2 my3
  have hy : (I my Cn).toInt = ac := by rw [ey]; exact hc
  have hy1 : (I my Cn - 1).toInt = (ac : Int) - 1 := isub hy cI1 (by omega) (by omega)
  obtain ⟨I1, a1, a2⟩ := np_none (J := J) (R := R) (mo := mo) (my := my) (pl := pl) (x1 := x2) (y2 := I my Cn - 1) (y1 := I my Cn) ac (((I my Cn - 1).toInt + 1).toNat + 1) I (I my Cn - 1) (by omega) hy1 hc4 h4
  simp only [F_X11_serve_150, F_X11_nextPlaces, nm, nmU, v10, v38, Option.getD_some, clamp_toInt h2]
  rw [a1]
  dsimp only
  rw [if_neg (show ¬ (0 : Int32) = 1 by decide)]
  exact ⟨I1, rfl, a2⟩
theorem rows_l (cx : Mcx R mo my pl so hcn tcn mr nmm al bp) (rg : Mrg I0 my so tcn mr F Cn af ac) {x1 x2 y5 y4 x3 : Int32} {nme : Int} {b3 : Nat} (h1 : x1.toInt = F) (h2 : x2.toInt = Cn) (h3 : x3.toInt = nme) (h30 : 0 ≤ nme ∧ nme ≤ 2) :
    ∀ (r : Nat) (pre : List Nat) (I : hI) (o : Option (Int × List Nat)) (g : Nat), pre.length + r = ac → (∀ j, j < pre.length → (I pl j).toInt = ((pre.getD j 0 : Nat) : Int) ∧ pre.getD j 0 ≤ 4) → (∀ j, pre.length ≤ j → j < ac → I pl j = 0) → Ms mo pl bp ac I0 I o →
      ∃ I1, F_X11_serve_91 mo x1 x2 y5 y4 pl b3 (g + 5 ^ r) I J R x3 1 = F_X11_serve_150 mo x1 x2 y5 y4 pl b3 x3 1 (F_X11_serve_91 mo x1 x2 y5 y4 pl b3 g) I1 J R ∧ Ms mo pl bp ac I0 I1 (sq o 1000000 (mf af (tcM so tcn F Cn I0) (hcM so hcn Cn I0) (rsM tcn mr F Cn I0 + nme) r pre)) ∧ (∀ j, j < pre.length → I1 pl j = I pl j) ∧ ∀ j, pre.length ≤ j → j < ac → I1 pl j = 4 := by
  intro r
  induction r with
  | zero =>
    intro pre I o g hl hp hz hm
    obtain ⟨I1, a1, a2, a3⟩ := row1 (J := J) (g := g) (y5 := y5) (y4 := y4) (b3 := b3) cx rg hm h1 h2 h3 h30 (by omega) (fun j hj => hp j (by omega))
    exact ⟨I1, a1, a2, fun j _ => by rw [a3], fun j z1 z2 => by omega⟩
  | succ r ih =>
    intro pre I o g hl hp hz hm
    obtain ⟨-, -, -, -, -, -, -, -, -, ⟨p1, p2, p3⟩, -⟩ := id cx
    have inner : ∀ (m d : Nat) (I : hI), m + d = 4 → (∀ j, j < pre.length → (I pl j).toInt = ((pre.getD j 0 : Nat) : Int) ∧ pre.getD j 0 ≤ 4) → (I pl pre.length).toInt = d → (∀ j, pre.length < j → j < ac → I pl j = 0) → Ms mo pl bp ac I0 I (sq o 1000000 (fun b => tl5 (fun d b => mf af (tcM so tcn F Cn I0) (hcM so hcn Cn I0) (rsM tcn mr F Cn I0 + nme) r (pre ++ [d]) b) b d)) →
        ∃ I1, F_X11_serve_91 mo x1 x2 y5 y4 pl b3 (g + (m + 1) * 5 ^ r) I J R x3 1 = F_X11_serve_150 mo x1 x2 y5 y4 pl b3 x3 1 (F_X11_serve_91 mo x1 x2 y5 y4 pl b3 g) I1 J R ∧ Ms mo pl bp ac I0 I1 (sq o 1000000 (fun b => tl5 (fun d b => mf af (tcM so tcn F Cn I0) (hcM so hcn Cn I0) (rsM tcn mr F Cn I0 + nme) r (pre ++ [d]) b) b 5)) ∧ (∀ j, j < pre.length → I1 pl j = I pl j) ∧ ∀ j, pre.length ≤ j → j < ac → I1 pl j = 4 := by
      intro m
      induction m with
      | zero =>
        intro d I hd hp hi hz hm
        have d4 : d = 4 := by omega
        subst d4
        have gr := gd_r (l := pre) (d := 4)
        obtain ⟨I1, a1, a2, a3, a4⟩ := ih (pre ++ [4]) I _ g (by rw [List.length_append]; simp only [List.length_cons, List.length_nil]; omega) (fun j hj => by
          rw [List.length_append] at hj
          simp only [List.length_cons, List.length_nil] at hj
          by_cases e : j = pre.length
          · rw [e, gr]; exact ⟨hi, by omega⟩
          · rw [gd_l (by omega)]; exact hp j (by omega)) (fun j z1 z2 => hz j (by rw [List.length_append] at z1; simp only [List.length_cons, List.length_nil] at z1; omega) z2) hm
        rw [List.length_append] at a3 a4
        simp only [List.length_cons, List.length_nil] at a3 a4
        refine ⟨I1, ?_, ?_, fun j hj => a3 j (by omega), fun j z1 z2 => ?_⟩
        · rw [show g + (0 + 1) * 5 ^ r = g + 5 ^ r by omega]; exact a1
        · rw [sq_tl]; exact a2
        · by_cases e : j = pre.length
          · rw [e, a3 _ (by omega)]
            exact Int32.toInt_inj.mp (by rw [hi]; decide)
          · exact a4 j (by omega) z2
      | succ m ihm =>
        intro d I hd hp hi hz hm
        have gr := gd_r (l := pre) (d := d)
        obtain ⟨I1, a1, a2, a3, a4⟩ := ih (pre ++ [d]) I _ (g + (m + 1) * 5 ^ r) (by rw [List.length_append]; simp only [List.length_cons, List.length_nil]; omega) (fun j hj => by
          rw [List.length_append] at hj
          simp only [List.length_cons, List.length_nil] at hj
          by_cases e : j = pre.length
          · rw [e, gr]; exact ⟨hi, by omega⟩
          · rw [gd_l (by omega)]; exact hp j (by omega)) (fun j z1 z2 => hz j (by rw [List.length_append] at z1; simp only [List.length_cons, List.length_nil] at z1; omega) z2) hm
        rw [List.length_append] at a3 a4
        simp only [List.length_cons, List.length_nil] at a3 a4
        obtain ⟨I2, b1, b2, b3_, b4, b5⟩ := next1 (J := J) (x1 := x1) (y5 := y5) (y4 := y4) (x3 := x3) (x4 := 1) (b3 := b3) (k := F_X11_serve_91 mo x1 x2 y5 y4 pl b3 (g + (m + 1) * 5 ^ r)) cx rg a2.1 h2 (i := pre.length) (r := r) (d := d) (by omega) (by rw [a3 _ (by omega)]; exact hi) (by omega) (fun j z1 z2 => a4 j (by omega) z2)
        obtain ⟨I3, c1, c2, c3, c4⟩ := ihm (d + 1) I2 (by omega) (fun j hj => by rw [b5 j hj, a3 j (by omega)]; exact hp j hj) b3_ b4 (by rw [sq_tl]; exact a2.pl p1 p3 b2)
        refine ⟨I3, ?_, c2, fun j hj => by rw [c3 j hj, b5 j hj, a3 j (by omega)], c4⟩
        rw [show g + (m + 1 + 1) * 5 ^ r = g + (m + 1) * 5 ^ r + 5 ^ r by rw [Nat.add_mul (m + 1) 1, Nat.one_mul]; omega, a1, b1, c1]
    obtain ⟨I1, a1, a2, a3, a4⟩ := inner 4 0 I rfl hp (by rw [hz _ (Nat.le_refl _) (by omega)]; decide) (fun j z1 z2 => hz j (by omega) z2) (by rw [sq_none rfl]; exact hm)
    refine ⟨I1, ?_, a2, a3, a4⟩
    rw [show g + 5 ^ (r + 1) = g + (4 + 1) * 5 ^ r by rw [Nat.pow_succ]; omega]
    exact a1
end SV
