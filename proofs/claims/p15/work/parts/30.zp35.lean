section GAP
variable {I K : hI} {J J' : hJ} {R : hR} {mo fi b1 b s s1 y10 t p pl bp fp m8 ma1 n : Nat} {x1 x2 : Int32}
theorem gap_l (v8 : R mo 8 = some m8) (h8 : m8 ≠ mo ∧ m8 ≠ pl ∧ m8 ≠ bp ∧ m8 ≠ fp) (hb1 : b1 ≠ fi ∧ b1 ≠ t ∧ b1 ≠ p) (va : R b1 0 = some ma1) (hx1 : (10 + x1).toInt = s1) (hx2 : x2.toInt = s) (hs1 : s1 < 20) (hn : (I b1 1).toInt = n) (hn8 : (K m8 s1).toInt = n) (hn6 : n ≤ 6)
    (hfam : ∀ j, j < n → ∃ f, R ma1 j = some f ∧ FitB I K J R mo fi f b s y10 (6 * s1 + j) t p pl bp fp) :
    ∀ (r g g1 j : Nat) (Ia Ka : hI) (xj : Int32), xj.toInt = j → j + r = n → r < g → r < g1 → FrC fi t p I Ia → FrM mo pl bp fp K Ka →
      (F_X3_firstGap_2 fi b1 b g Ia J R xj).1 = (F_X11_gap_38 mo x1 x2 g1 Ka J' R xj).1 := by
  intro r
  induction r with
  | zero =>
    intro g g1 j Ia Ka xj hj hr hg hg1 hI hK
    obtain ⟨g', rfl⟩ : ∃ g', g = g' + 1 := ⟨g - 1, by omega⟩
    obtain ⟨g1', rfl⟩ : ∃ g', g1 = g' + 1 := ⟨g1 - 1, by omega⟩
    rw [F_X11_gap_38_s, F_X3_firstGap_2_s]
    simp only [B_X11_gap_38, B_X3_firstGap_2, nm, nmU, v8, Option.getD_some, clamp_toInt hx1]
    rw [hK.1 m8 h8.1 h8.2.1 h8.2.2.1 h8.2.2.2, if_pos (show K m8 s1 ≤ xj by rw [ile, hn8, hj]; omega), hI.1 b1 hb1.1 hb1.2.1 hb1.2.2, if_pos (show I b1 1 ≤ xj by rw [ile, hn, hj]; omega)] <;> rfl
  | succ r ih =>
    intro g g1 j Ia Ka xj hj hr hg hg1 hI hK
    obtain ⟨g', rfl⟩ : ∃ g', g = g' + 1 := ⟨g - 1, by omega⟩
    obtain ⟨g1', rfl⟩ : ∃ g', g1 = g' + 1 := ⟨g1 - 1, by omega⟩
    obtain ⟨f, vf, o, acs, acm, -, hq, cl, md⟩ := hfam j (by omega)
    rw [F_X11_gap_38_s, F_X3_firstGap_2_s]
    simp only [B_X11_gap_38, B_X3_firstGap_2, nm, nmU, v8, va, vf, Option.getD_some, clamp_toInt hx1, clamp_toInt hj]
    rw [hK.1 m8 h8.1 h8.2.1 h8.2.2.1 h8.2.2.2, if_neg (show ¬ K m8 s1 ≤ xj by rw [ile, hn8, hj]; omega), hI.1 b1 hb1.1 hb1.2.1 hb1.2.2, if_neg (show ¬ I b1 1 ≤ xj by rw [ile, hn, hj]; omega)]
    have eF : (6 * (10 + x1) + xj).toInt = ((6 * s1 + j : Nat) : Int) := by rw [iadd (imul (x := 6) cI6 hx1 (by omega) (by omega)) hj (by omega) (by omega)]; omega
    obtain ⟨Ic, q1, q2⟩ := cl Ia hI.1 hI.2
    obtain ⟨Im, q3, q4⟩ := md J' Ka (6 * (10 + x1) + xj) x2 eF hx2 hK.1 hK.2
    have hj1 : (xj + 1).toInt = ((j + 1 : Nat) : Int) := by rw [add1 (b := 6) (by omega) (by omega), hj]; omega
    rw [q1, q3]
    dsimp only
    cases o with
    | none =>
      rw [if_neg (show ¬ (none : Option (Int × Nat × List Nat)).isSome = true by decide), if_pos (show (0 : Int32) = 0 from rfl), if_neg (show ¬ (0 : Int32) = 1 by decide)] <;> rfl
    | some q =>
      rw [if_pos (show (some q).isSome = true from rfl), if_neg (show ¬ (1 : Int32) = 0 by decide), if_pos (show (1 : Int32) = 1 from rfl)]
      exact ih g' g1' (j + 1) Ic Im (xj + 1) hj1 (by omega) (by omega) (by omega) ⟨q2.1, q2.2.1⟩ ⟨q4.1, q4.2.1⟩
end GAP
