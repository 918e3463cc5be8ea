/-! all members of a face -/
def FrC (fi t p : Nat) (I Ia : hI) : Prop := Nea fi t p I Ia ∧ ∀ k, k ≠ 4 → k ≠ 5 → Ia fi k = I fi k
def FrM (mo pl bp fp : Nat) (K Ka : hI) : Prop := (∀ z, z ≠ mo → z ≠ pl → z ≠ bp → z ≠ fp → Ka z = K z) ∧ ∀ k, k ≠ 40 → k ≠ 41 → k ≠ 42 → Ka mo k = K mo k
section ALL
variable {I K : hI} {J J' : hJ} {R : hR} {mo fi b1 b s s1 y10 t p pl bp fp m8 ma1 n : Nat} {x1 x2 : Int32}
theorem big_l (v8 : R mo 8 = some m8) (h8 : m8 ≠ mo ∧ m8 ≠ pl ∧ m8 ≠ bp ∧ m8 ≠ fp) (hx1 : (10 + x1).toInt = s1) (hx2 : x2.toInt = s) (hs1 : s1 < 20) (hn8 : (K m8 s1).toInt = n) (hn6 : n ≤ 6)
    (hfam : ∀ j, j < n → ∃ f, R ma1 j = some f ∧ FitB I K J R mo fi f b s y10 (6 * s1 + j) t p pl bp fp) :
    ∀ (r g j : Nat) (Ka : hI) (xa xj : Int32) (a : Int), xj.toInt = j → j + r = n → r < g → FrM mo pl bp fp K Ka → xa.toInt = a → 1000000 ≤ a → a ≤ 1001522 * (j : Int) →
      ∃ rb Im, F_X11_fitsAt_5 mo x1 x2 g Ka J' R xa xj = (rb, (Im, J', R)) ∧ FrM mo pl bp fp K Im ∧ 1000000 ≤ rb.toInt := by
  intro r
  induction r with
  | zero =>
    intro g j Ka xa xj a hj hr hg hK ha a1 a2
    obtain ⟨g', rfl⟩ : ∃ g', g = g' + 1 := ⟨g - 1, by omega⟩
    rw [F_X11_fitsAt_5_s]
    simp only [B_X11_fitsAt_5, nm, nmU, v8, Option.getD_some, clamp_toInt hx1]
    rw [hK.1 m8 h8.1 h8.2.1 h8.2.2.1 h8.2.2.2, if_pos (by rw [ile, hn8, hj]; omega)]
    exact ⟨xa, Ka, rfl, hK, by omega⟩
  | succ r ih =>
    intro g j Ka xa xj a hj hr hg hK ha a1 a2
    obtain ⟨g', rfl⟩ : ∃ g', g = g' + 1 := ⟨g - 1, by omega⟩
    rw [F_X11_fitsAt_5_s]
    simp only [B_X11_fitsAt_5, F_X11_fitsAt_47, nm, nmU, v8, Option.getD_some, clamp_toInt hx1]
    rw [hK.1 m8 h8.1 h8.2.1 h8.2.2.1 h8.2.2.2, if_neg (by rw [ile, hn8, hj]; omega)]
    obtain ⟨f, vf, o, acs, acm, -, hq, cl, md⟩ := hfam j (by omega)
    have eF : (6 * (10 + x1) + xj).toInt = ((6 * s1 + j : Nat) : Int) := by rw [iadd (imul (x := 6) cI6 hx1 (by omega) (by omega)) hj (by omega) (by omega)]; omega
    obtain ⟨Im, q3, q4⟩ := md J' Ka (6 * (10 + x1) + xj) x2 eF hx2 hK.1 hK.2
    have hj1 : (xj + 1).toInt = ((j + 1 : Nat) : Int) := by rw [add1 (b := 6) (by omega) (by omega), hj]; omega
    rw [q3]
    dsimp only
    have hb : a ≤ 6009132 := by omega
    cases o with
    | none =>
      rw [if_neg (show ¬ (none : Option (Int × Nat × List Nat)).isSome = true by decide), if_pos (show (0 : Int32) = 0 from rfl)]
      exact ih g' (j + 1) Im (xa + 1000000) (xj + 1) (a + 1000000) hj1 (by omega) (by omega) ⟨q4.1, q4.2.1⟩ (iadd ha (by decide) (by omega) (by omega)) (by omega) (by omega)
    | some q =>
      rw [if_pos (show (some q).isSome = true from rfl), if_neg (show ¬ (1 : Int32) = 0 by decide)]
      obtain ⟨u1, -⟩ := hq q rfl
      rcases q4.2.2 with ⟨y, -⟩ | ⟨y, m', l', y1, y2, -⟩
      · cases y
      · cases y1
        have u1 : 0 ≤ y ∧ y ≤ 1522 := u1
        exact ih g' (j + 1) Im (xa + Im mo 41) (xj + 1) (a + y) hj1 (by omega) (by omega) ⟨q4.1, q4.2.1⟩ (iadd ha y2 (by omega) (by omega)) (by omega) (by omega)
theorem all_l (v8 : R mo 8 = some m8) (h8 : m8 ≠ mo ∧ m8 ≠ pl ∧ m8 ≠ bp ∧ m8 ≠ fp) (hb1 : b1 ≠ fi ∧ b1 ≠ t ∧ b1 ≠ p) (va : R b1 0 = some ma1) (hx1 : (10 + x1).toInt = s1) (hx2 : x2.toInt = s) (hs1 : s1 < 20) (hn : (I b1 1).toInt = n) (hn8 : (K m8 s1).toInt = n) (hn6 : n ≤ 6)
    (hfam : ∀ j, j < n → ∃ f, R ma1 j = some f ∧ FitB I K J R mo fi f b s y10 (6 * s1 + j) t p pl bp fp) :
    ∀ (r g g1 j : Nat) (Ia Ka : hI) (xa xb xj : Int32) (a : Int), xj.toInt = j → j + r = n → r < g → r < g1 → FrC fi t p I Ia → FrM mo pl bp fp K Ka → xa.toInt = a → xb.toInt = a → 0 ≤ a → a ≤ 1522 * (j : Int) →
      ∃ ra Ic rb Im, F_X3_costOfAll_5 fi b1 b g Ia J R xa xj = (ra, (Ic, J, R)) ∧ F_X11_fitsAt_5 mo x1 x2 g1 Ka J' R xb xj = (rb, (Im, J', R)) ∧ FrC fi t p I Ic ∧ FrM mo pl bp fp K Im ∧ ((ra = rb ∧ 0 ≤ rb.toInt ∧ rb.toInt ≤ 9132) ∨ (ra = -6 ∧ 1000000 ≤ rb.toInt)) := by
  intro r
  induction r with
  | zero =>
    intro g g1 j Ia Ka xa xb xj a hj hr hg hg1 hI hK ha hb a1 a2
    obtain ⟨g', rfl⟩ : ∃ g', g = g' + 1 := ⟨g - 1, by omega⟩
    obtain ⟨g1', rfl⟩ : ∃ g', g1 = g' + 1 := ⟨g1 - 1, by omega⟩
    rw [F_X11_fitsAt_5_s, F_X3_costOfAll_5_s]
    simp only [B_X11_fitsAt_5, B_X3_costOfAll_5, nm, nmU, v8, Option.getD_some, clamp_toInt hx1]
    rw [hK.1 m8 h8.1 h8.2.1 h8.2.2.1 h8.2.2.2, if_pos (show K m8 s1 ≤ xj by rw [ile, hn8, hj]; omega), hI.1 b1 hb1.1 hb1.2.1 hb1.2.2, if_pos (show I b1 1 ≤ xj by rw [ile, hn, hj]; omega)]
    exact ⟨xa, Ia, xb, Ka, rfl, rfl, hI, hK, Or.inl ⟨Int32.toInt_inj.mp (by rw [ha, hb]), by omega, by omega⟩⟩
  | succ r ih =>
    intro g g1 j Ia Ka xa xb xj a hj hr hg hg1 hI hK ha hb a1 a2
    obtain ⟨g', rfl⟩ : ∃ g', g = g' + 1 := ⟨g - 1, by omega⟩
    obtain ⟨g1', rfl⟩ : ∃ g', g1 = g' + 1 := ⟨g1 - 1, by omega⟩
    obtain ⟨f, vf, o, acs, acm, -, hq, cl, md⟩ := hfam j (by omega)
    rw [F_X11_fitsAt_5_s, F_X3_costOfAll_5_s]
    simp only [B_X11_fitsAt_5, F_X11_fitsAt_47, B_X3_costOfAll_5, nm, nmU, v8, va, vf, Option.getD_some, clamp_toInt hx1, clamp_toInt hj]
    rw [hK.1 m8 h8.1 h8.2.1 h8.2.2.1 h8.2.2.2, if_neg (show ¬ K m8 s1 ≤ xj by rw [ile, hn8, hj]; omega), hI.1 b1 hb1.1 hb1.2.1 hb1.2.2, if_neg (show ¬ I b1 1 ≤ xj by rw [ile, hn, hj]; omega)]
    have eF : (6 * (10 + x1) + xj).toInt = ((6 * s1 + j : Nat) : Int) := by rw [iadd (imul (x := 6) cI6 hx1 (by omega) (by omega)) hj (by omega) (by omega)]; omega
    obtain ⟨Ic, q1, q2⟩ := cl Ia hI.1 hI.2
    obtain ⟨Im, q3, q4⟩ := md J' Ka (6 * (10 + x1) + xj) x2 eF hx2 hK.1 hK.2
    have hj1 : (xj + 1).toInt = ((j + 1 : Nat) : Int) := by rw [add1 (b := 6) (by omega) (by omega), hj]; omega
    rw [q1, q3]
    dsimp only
    cases o with
    | none =>
      rw [if_neg (show ¬ (none : Option (Int × Nat × List Nat)).isSome = true by decide), if_pos (show (0 : Int32) = 0 from rfl), if_neg (show ¬ (0 : Int32) = 1 by decide)]
      obtain ⟨rb, Im2, w1, w2, w3⟩ := big_l (J' := J') v8 h8 hx1 hx2 hs1 hn8 hn6 hfam r g1' (j + 1) Im (xb + 1000000) (xj + 1) (a + 1000000) hj1 (by omega) (by omega) ⟨q4.1, q4.2.1⟩ (iadd hb (by decide) (by omega) (by omega)) (by omega) (by omega)
      exact ⟨-6, Ic, rb, Im2, rfl, w1, ⟨q2.1, q2.2.1⟩, w2, Or.inr ⟨rfl, w3⟩⟩
    | some q =>
      rw [if_pos (show (some q).isSome = true from rfl), if_neg (show ¬ (1 : Int32) = 0 by decide), if_pos (show (1 : Int32) = 1 from rfl)]
      obtain ⟨u1, -⟩ := hq q rfl
      rcases q2.2.2 with ⟨z, -⟩ | ⟨z, m, l, z1, z2, -⟩
      · cases z
      · cases z1
        rcases q4.2.2 with ⟨y, -⟩ | ⟨y, m', l', y1, y2, -⟩
        · cases y
        · cases y1
          have u1 : 0 ≤ z ∧ z ≤ 1522 := u1
          exact ih g' g1' (j + 1) Ic Im (xa + Ic fi 4) (xb + Im mo 41) (xj + 1) (a + z) hj1 (by omega) (by omega) (by omega) ⟨q2.1, q2.2.1⟩ ⟨q4.1, q4.2.1⟩ (iadd ha z2 (by omega) (by omega)) (iadd hb y2 (by omega) (by omega)) (by omega) (by omega)
end ALL
