section THR
variable {L : List Nat} {C : Nat → Nat} {x mo : Nat} {I I1 K : hI} {J J1 : hJ} {R R1 : hR} {fi t p sh ru w al pa co ct : Nat}
set_option maxHeartbeats 1000000 in
theorem thrM (oI : OkI L C I) (oR : OkR L C R) (km : C mo = 11) (a4 : At L C R x 4 sh 57) {pl bp fp cl' cp y10 : Nat} (i38 : At L C R1 mo 38 pl 90) (i39 : At L C R1 mo 39 bp 91) (i43 : At L C R1 mo 43 fp 92) (i50 : At L C R1 mo 50 cl' 97) (i51 : At L C R1 mo 51 cp 98) (hR1 : ∀ z j, C z ≠ 51 → C z ≠ 1 → R1 z j = R z j) (h5 : ∀ z, C z = 5 → I1 z = I z) (h7 : ∀ z, C z = 7 → I1 z = I z)
    (hoc : ∀ s1 s j1 b1 b ma1 f, s1 < 20 → s < 20 → R sh s1 = some b1 → R sh s = some b → j1 < 6 → R b1 0 = some ma1 → R ma1 j1 = some f → oC fi f b I1 J1 R1 = oC fi f b I J R)
    (hfit : ∀ K', (∀ z r, C z = r → r ∉ exW → K' z = K z) → ∀ (s1 j1 s b1 b ma1 f : Nat), s1 < 20 → s < 20 → R1 sh s1 = some b1 → R1 sh s = some b → j1 < 6 → (j1 : Int) < (I1 b1 1).toInt → R1 b1 0 = some ma1 → R1 ma1 j1 = some f → FitB I1 K' J1 R1 mo fi f b s y10 (6 * s1 + j1) t p pl bp fp)
    {tw mc : Nat} (v48 : At L C R1 mo 48 tw 96) (v22 : R1 mo 22 = some mc) {tg : Nat → Nat} {s0 j0 n m : Nat} (hn : n ≤ 9) (hmn : m ≤ n) (hpos : ∀ i, i ≤ m → runL fi sh I J R tg s0 j0 i = some (posL fi sh I J R tg s0 j0 i) ∧ (posL fi sh I J R tg s0 j0 i).1 < 20 ∧ (posL fi sh I J R tg s0 j0 i).2 < 6 ∧ ((posL fi sh I J R tg s0 j0 i).2 : Int) < (I (shpC sh R (posL fi sh I J R tg s0 j0 i).1) 1).toInt) (hend : m < n → runL fi sh I J R tg s0 j0 (m + 1) = none) {K0 : hI} (htw : ∀ k, k < n → 0 ≤ (K0 tw (n - 1 - k)).toInt ∧ (K0 tw (n - 1 - k)).toInt ≤ 9 ∧ tg k = 10 + (K0 tw (n - 1 - k)).toNatClampNeg) {x1 x2 x3 x4 y3 y4 : Int32} :
    ∀ (r f k : Nat) (x6 : Int32) (Ka : hI), k + r = m → n - k < f → x6.toInt = (n : Int) - 1 - (k : Int) → LkM C mo pl bp fp cl' cp fi sh I K J R tg s0 j0 k Ka → Ka tw = K0 tw →
      (m < n ∧ ∃ Kc, F_X11_through_116 mo x1 x2 x3 x4 y3 y4 f Ka J1 R1 1 x6 = (-6, (Kc, J1, R1)) ∧ ∀ j, j ≠ 40 → j ≠ 41 → j ≠ 42 → j ≠ 49 → Kc mo j = Ka mo j) ∨ (m = n ∧ ∃ Kb, LkM C mo pl bp fp cl' cp fi sh I K J R tg s0 j0 n Kb ∧ F_X11_through_116 mo x1 x2 x3 x4 y3 y4 f Ka J1 R1 1 x6 = finF mo x1 (Kb mc x1.toNatClampNeg) Kb J1 R1 ∧ ∀ j, j ≠ 40 → j ≠ 41 → j ≠ 42 → j ≠ 49 → Kb mo j = Ka mo j) := by
  have one : ¬ (1 : Int32) = 0 := by decide
  have stp : ∀ (f' k : Nat) (x6 : Int32) (Ka : hI), k < n → x6.toInt = (n : Int) - 1 - (k : Int) → Ka tw = K0 tw → ∃ xs : Int32, xs.toInt = (tg k : Int) ∧ tg k < 20 ∧ F_X11_through_116 mo x1 x2 x3 x4 y3 y4 (f' + 1) Ka J1 R1 1 x6 = nmU (F_X11_link mo xs Ka J1 R1) fun y36 I36 _ _ => (if y36 = (1 : Int32) then F_X11_through_116 mo x1 x2 x3 x4 y3 y4 f' I36 J1 R1 1 (x6 + -1) else F_X11_through_116 mo x1 x2 x3 x4 y3 y4 f' I36 J1 R1 0 (x6 + -1)) := fun f' k x6 Ka hk hx hW => by
    obtain ⟨w1, w2, w3⟩ := htw k hk
    have nw := nat_of w1
    have hxN : x6.toNatClampNeg = n - 1 - k := clamp_toInt (by omega)
    refine ⟨10 + K0 tw (n - 1 - k), by rw [ten ⟨w1, w2⟩, w3]; omega, by omega, ?_⟩
    rw [F_X11_through_116_s, thrS (neg_k hx hk), v48.2.2, Option.getD_some, hW, hxN]
  intro r
  induction r with
  | zero =>
    intro f k x6 Ka hk hf hx h hW
    obtain ⟨f', rfl⟩ : ∃ f', f = f' + 1 := ⟨f - 1, by omega⟩
    obtain rfl : k = m := by omega
    by_cases e : k = n
    · subst e
      refine Or.inr ⟨rfl, Ka, h, ?_, fun _ _ _ _ _ => rfl⟩
      have hz : x6 < 0 := by rw [ilt, hx, cI0]; omega
      have e2 := F_X11_through_116_s (a0 := mo) (x1 := x1) (x2 := x2) (x3 := x3) (x4 := x4) (y3 := y3) (y4 := y4) (n := f') (I_116 := Ka) (J_116 := J1) (R := R1) (x5_116 := 1) (x6_116 := x6)
      have e := thrE (mo := mo) (x1 := x1) (x2 := x2) (x3 := x3) (x4 := x4) (y3 := y3) (y4 := y4) (k := F_X11_through_116 mo x1 x2 x3 x4 y3 y4 f') (I := Ka) (J := J1) (R := R1) hz
      rw [v22, Option.getD_some] at e
      exact Eq.trans e2 e
    · obtain ⟨f2, rfl⟩ : ∃ f2, f' = f2 + 1 := ⟨f' - 1, by omega⟩
      obtain ⟨xs, q1, q2, q3⟩ := stp (f2 + 1) k x6 Ka (by omega) hx hW
      obtain ⟨p1, p2, p3, p4⟩ := hpos k (Nat.le_refl _)
      refine Or.inl ⟨by omega, ?_⟩
      rcases LkM.step (t := t) (p := p) oI oR km a4 i38 i39 i43 i50 i51 hR1 h5 h7 hoc hfit (show k ≤ 9 by omega) q2 (J' := J1) (fun i hi => ⟨(hpos (i + 1) (by omega)).2.1, (hpos (i + 1) (by omega)).2.2.1⟩) p1 p2 p3 p4 (xs := xs) q1 h with ⟨-, Kc, y1, y2⟩ | ⟨y0, -⟩
      · refine ⟨Kc, ?_, fun j j1 j2 j3 _ => y2 j j1 j2 j3⟩
        rw [q3, y1]
        show (if (0 : Int32) = 1 then _ else _) = _
        rw [if_neg (show ¬ (0 : Int32) = 1 by decide)]
        exact thr0 rfl
      · exact absurd (hend (by omega)) y0
  | succ r ih =>
    intro f k x6 Ka hk hf hx h hW
    obtain ⟨f', rfl⟩ : ∃ f', f = f' + 1 := ⟨f - 1, by omega⟩
    obtain ⟨xs, q1, q2, q3⟩ := stp f' k x6 Ka (by omega) hx hW
    obtain ⟨p1, p2, p3, p4⟩ := hpos k (by omega)
    have hkn : k < n := by omega
    rcases LkM.step (t := t) (p := p) oI oR km a4 i38 i39 i43 i50 i51 hR1 h5 h7 hoc hfit (show k ≤ 9 by omega) q2 (J' := J1) (fun i hi => ⟨(hpos (i + 1) (by omega)).2.1, (hpos (i + 1) (by omega)).2.2.1⟩) p1 p2 p3 p4 (xs := xs) q1 h with ⟨y0, -⟩ | ⟨-, Kb, yb1, yb2, yb3, yb4⟩
    · have := (hpos (k + 1) (by omega)).1
      rw [y0] at this
      cases this
    · have e1 : F_X11_through_116 mo x1 x2 x3 x4 y3 y4 (f' + 1) Ka J1 R1 1 x6 = F_X11_through_116 mo x1 x2 x3 x4 y3 y4 f' Kb J1 R1 1 (x6 + -1) := by
        rw [q3, yb1]
        show (if (1 : Int32) = 1 then _ else _) = _
        rw [if_pos (show (1 : Int32) = 1 from rfl)]
      rw [e1]
      rcases ih f' (k + 1) (x6 + -1) Kb (by omega) (by omega) (dec_k hx hkn hn) yb2 ((yb4 tw v48.2.1).trans hW) with ⟨g1, Kc, g2, g3⟩ | ⟨g1, Kc, g2, g3, g4⟩
      · exact Or.inl ⟨g1, Kc, g2, fun j j1 j2 j3 j4 => (g3 j j1 j2 j3 j4).trans (yb3 j j1 j2 j3 j4)⟩
      · exact Or.inr ⟨g1, Kc, g2, g3, fun j j1 j2 j3 j4 => (g4 j j1 j2 j3 j4).trans (yb3 j j1 j2 j3 j4)⟩
end THR
