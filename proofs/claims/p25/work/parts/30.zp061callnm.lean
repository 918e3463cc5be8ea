section CHM
variable {L : List Nat} {C : Nat → Nat} {x mo : Nat} {I I1 K : hI} {J J1 : hJ} {R R1 : hR} {fi t p sh ru w al pa co ct : Nat}
/-- after k links, in the model -/
def LkM (C : Nat → Nat) (mo pl bp fp cl cp fi sh : Nat) (I K : hI) (J : hJ) (R : hR) (tg : Nat → Nat) (s0 j0 k : Nat) (Ka : hI) : Prop :=
  (∀ z r, C z = r → r ∉ exW → z ≠ pl → z ≠ bp → z ≠ fp → Ka z = K z) ∧ (Ka mo 49).toInt = ((k + 1 : Nat) : Int) ∧
  (∀ i, i ≤ k → (Ka cl i).toInt = ((6 * (posL fi sh I J R tg s0 j0 i).1 + (posL fi sh I J R tg s0 j0 i).2 : Nat) : Int)) ∧
  (∀ i, i < k → ∀ j, j < (I (memC sh R (posL fi sh I J R tg s0 j0 (i + 1)).1 (posL fi sh I J R tg s0 j0 (i + 1)).2) 2).toNatClampNeg → (Ka cp (4 * (i + 1) + j)).toInt = (((plsL fi sh I J R tg s0 j0 i).getD j 0 : Nat) : Int))
theorem LkM.step (oI : OkI L C I) (oR : OkR L C R) (km : C mo = 11) (a4 : At L C R x 4 sh 57) {pl bp fp cl cp y10 : Nat} (i38 : At L C R1 mo 38 pl 90) (i39 : At L C R1 mo 39 bp 91) (i43 : At L C R1 mo 43 fp 92) (i50 : At L C R1 mo 50 cl 97) (i51 : At L C R1 mo 51 cp 98) (hR1 : ∀ z j, C z ≠ 51 → C z ≠ 1 → R1 z j = R z j) (h5 : ∀ z, C z = 5 → I1 z = I z) (h7 : ∀ z, C z = 7 → I1 z = I z)
    (hoc : ∀ s1 s j1 b1 b ma1 f, s1 < 20 → s < 20 → R sh s1 = some b1 → R sh s = some b → j1 < 6 → R b1 0 = some ma1 → R ma1 j1 = some f → oC fi f b I1 J1 R1 = oC fi f b I J R)
    (hfit : ∀ K', (∀ z r, C z = r → r ∉ exW → K' z = K z) → ∀ (s1 j1 s b1 b ma1 f : Nat), s1 < 20 → s < 20 → R1 sh s1 = some b1 → R1 sh s = some b → j1 < 6 → (j1 : Int) < (I1 b1 1).toInt → R1 b1 0 = some ma1 → R1 ma1 j1 = some f → FitB I1 K' J1 R1 mo fi f b s y10 (6 * s1 + j1) t p pl bp fp)
    {tg : Nat → Nat} {s0 j0 k : Nat} (hk : k ≤ 9) (htg : tg k < 20) {Ka : hI} {J' : hJ} (hpo : ∀ i, i < k → (posL fi sh I J R tg s0 j0 (i + 1)).1 < 20 ∧ (posL fi sh I J R tg s0 j0 (i + 1)).2 < 6) (hrun : runL fi sh I J R tg s0 j0 k = some (posL fi sh I J R tg s0 j0 k)) (hp1 : (posL fi sh I J R tg s0 j0 k).1 < 20) (hp2 : (posL fi sh I J R tg s0 j0 k).2 < 6) (hp3 : ((posL fi sh I J R tg s0 j0 k).2 : Int) < (I (shpC sh R (posL fi sh I J R tg s0 j0 k).1) 1).toInt) {xs : Int32} (hxs : xs.toInt = tg k) (h : LkM C mo pl bp fp cl cp fi sh I K J R tg s0 j0 k Ka) :
    (runL fi sh I J R tg s0 j0 (k + 1) = none ∧ ∃ Kc, F_X11_link mo xs Ka J' R1 = (0, (Kc, J', R1)) ∧ (∀ j, j ≠ 40 → j ≠ 41 → j ≠ 42 → Kc mo j = Ka mo j)) ∨ (runL fi sh I J R tg s0 j0 (k + 1) ≠ none ∧ ∃ Kb, F_X11_link mo xs Ka J' R1 = (1, (Kb, J', R1)) ∧ LkM C mo pl bp fp cl cp fi sh I K J R tg s0 j0 (k + 1) Kb ∧ (∀ j, j ≠ 40 → j ≠ 41 → j ≠ 42 → j ≠ 49 → Kb mo j = Ka mo j) ∧ ∀ z, C z = 96 → Kb z = Ka z) := by
  obtain ⟨hF, h49, hcl, hcp⟩ := id h
  generalize hP : posL fi sh I J R tg s0 j0 k = P at *
  obtain ⟨b1, ma1, f, fs, fac, g1, g2, g3, g4, g5, g6, g7, g8, g9, g10, -⟩ := memF oR a4.1 a4.2.1 hp1 hp2
  obtain ⟨b, vb, mb, kb⟩ := shE oR a4.1 a4.2.1 htg
  have eb : shpC sh R (tg k) = b := by unfold shpC; rw [vb]; rfl
  rw [g2] at hp3
  have ksh := a4.2.1
  obtain ⟨K', hK'⟩ : ∃ K' : hI, K' = fun z => if z = pl ∨ z = bp ∨ z = fp then K z else Ka z := ⟨_, rfl⟩
  have e1 : ∀ z r, C z = r → r ∉ exW → K' z = K z := fun z r hz hr => by
    rw [hK']
    by_cases e : z = pl ∨ z = bp ∨ z = fp
    · exact if_pos e
    · dsimp only
      rw [if_neg e]
      exact hF z r hz hr (fun q => e (Or.inl q)) (fun q => e (Or.inr (Or.inl q))) (fun q => e (Or.inr (Or.inr q)))
  have e2 : ∀ z, z ≠ pl → z ≠ bp → z ≠ fp → K' z = Ka z := fun z z1 z2 z3 => by
    rw [hK']
    exact if_neg (fun e => by rcases e with q | q | q; exact z1 q; exact z2 q; exact z3 q)
  have w : ∀ z j r, C z = r → r ≠ 51 → r ≠ 1 → R1 z j = R z j := fun z j r hz h1 h2 => hR1 z j (by rw [hz]; exact h1) (by rw [hz]; exact h2)
  obtain ⟨o, acs, acm, eo, hq, -, md⟩ := hfit K' e1 P.1 P.2 (tg k) b1 b ma1 f hp1 htg ((w sh _ 57 ksh (by decide) (by decide)).trans g1) ((w sh _ 57 ksh (by decide) (by decide)).trans vb) hp2 (by rw [h7 b1 g4]; exact hp3) ((w b1 0 7 g4 (by decide) (by decide)).trans g5) ((w ma1 P.2 56 g6 (by decide) (by decide)).trans g7)
  rw [hoc P.1 (tg k) P.2 b1 b ma1 f hp1 htg g1 vb hp2 g5 g7] at eo
  have kmo : mo ≠ pl ∧ mo ≠ bp ∧ mo ≠ fp := ⟨ne_role km i38.2.1 (by decide), ne_role km i39.2.1 (by decide), ne_role km i43.2.1 (by decide)⟩
  obtain ⟨Im, m1, m2⟩ := md J' Ka (Ka cl k) xs (by have := hcl k (Nat.le_refl _); rw [hP] at this; exact this) hxs (fun z z1 z2 z3 z4 => (e2 z z2 z3 z4).symm) (fun q _ _ _ => by rw [e2 mo kmo.1 kmo.2.1 kmo.2.2])
  have lk := linkM (acm := acm) (K := K') (pl := pl) (bp := bp) i50.2.2 i51.2.2 i43.2.2 h49 hk hxs htg (ne_role i51.2.1 i43.2.1 (by decide)) (ne_role i50.2.1 i51.2.1 (by decide)) (ne_role i50.2.1 km (by decide)) (ne_role i51.2.1 km (by decide)) m1 m2 (fun q hq' => (hq q hq').2.2.1)
  have est : stp fi sh I J R P.1 P.2 (tg k) = match (generalizing := false) o with
      | none => none
      | some q => some (q.2.1, q.2.2) := by unfold stp; rw [g8, eb, eo]; rfl
  have fm : ∀ j, j ≠ 40 → j ≠ 41 → j ≠ 42 → Im mo j = Ka mo j := fun j j1 j2 j3 => by rw [m2.2.1 j j1 j2 j3, e2 mo kmo.1 kmo.2.1 kmo.2.2]
  have fz : ∀ z, z ≠ mo → z ≠ pl → z ≠ bp → z ≠ fp → Im z = Ka z := fun z z1 z2 z3 z4 => by rw [m2.1 z z1 z2 z3 z4, e2 z z2 z3 z4]
  have c1 : cl ≠ mo ∧ cl ≠ pl ∧ cl ≠ bp ∧ cl ≠ fp := ⟨ne_role i50.2.1 km (by decide), ne_role i50.2.1 i38.2.1 (by decide), ne_role i50.2.1 i39.2.1 (by decide), ne_role i50.2.1 i43.2.1 (by decide)⟩
  have c2 : cp ≠ mo ∧ cp ≠ pl ∧ cp ≠ bp ∧ cp ≠ fp := ⟨ne_role i51.2.1 km (by decide), ne_role i51.2.1 i38.2.1 (by decide), ne_role i51.2.1 i39.2.1 (by decide), ne_role i51.2.1 i43.2.1 (by decide)⟩
  rcases lk with ⟨l1, l2⟩ | ⟨z, m, l, I2, l1, l2, l3, l4, l5, l6, l7, l8, l9⟩
  · refine Or.inl ⟨?_, Im, l2, fm⟩
    rw [l1] at est
    simp only [runL, hrun]
    rw [est]
  · rw [l1] at est
    have est : stp fi sh I J R P.1 P.2 (tg k) = some (m, l) := est
    have hrun1 : runL fi sh I J R tg s0 j0 (k + 1) = some (tg k, m) := by
      simp only [runL, hrun]
      rw [est]
    have hpos1 : posL fi sh I J R tg s0 j0 (k + 1) = (tg k, m) := by unfold posL; rw [hrun1]; rfl
    have hpls : plsL fi sh I J R tg s0 j0 k = l := by unfold plsL; rw [hP, est]
    obtain ⟨-, u2', u3, u4, u5, u6, u7, u8, u9⟩ := hq _ l1
    have u3 : m < 6 := u3
    obtain ⟨b', mab, c, cs, cf, n1, n2, n3, n4, n5, n6, n7, n8, n9, n10, -⟩ := memF oR a4.1 a4.2.1 htg u3
    obtain rfl : b' = b := Option.some.inj (n1.symm.trans vb)
    have hac : (I1 c 2).toInt = acs m := u6 mab c ((w b' 0 7 n4 (by decide) (by decide)).trans n5) ((w mab m 56 n6 (by decide) (by decide)).trans n7)
    rw [h5 c n10] at hac
    refine Or.inr ⟨by rw [hrun1]; exact Option.some_ne_none _, I2, l2, ⟨fun z' r hz hr z1 z2 z3 => ?_, l3, fun i hi => ?_, fun i hi j hj => ?_⟩, fun j j1 j2 j3 j4 => by rw [l4 j j4, fm j j1 j2 j3], fun z hz => ?_⟩
    · have nq : ∀ c r', C c = r' → r' ∈ exW → z' ≠ c := fun c r' hc hr' e => hr (by rw [← hz, e, hc]; exact hr')
      rw [l5 z' (nq mo 11 km (by decide)) (nq cl 97 i50.2.1 (by decide)) (nq cp 98 i51.2.1 (by decide)), fz z' (nq mo 11 km (by decide)) z1 z2 z3]
      exact hF z' r hz hr z1 z2 z3
    · by_cases e : i = k + 1
      · subst e
        rw [hpos1]
        exact l6
      · rw [l7 i e, fz cl c1.1 c1.2.1 c1.2.2.1 c1.2.2.2]
        exact h.2.2.1 i (by omega)
    · by_cases e : i = k
      · subst e
        rw [hpos1, n8] at hj
        have u4 : acs m = acm m := u4
        have u5 : acs m ≤ 4 := u5
        have hj' : j < acm m := by
          have := nat_of (x := I c 2) (by rw [hac]; omega)
          omega
        rw [hpls, l8 j (by omega)]
        rcases m2.2.2 with ⟨y, -⟩ | ⟨y, m', l', y1, y2, y3, y4, y5⟩
        · rw [l1] at y; cases y
        · rw [l1] at y1
          cases y1
          exact y5 j hj'
      · rw [l9 _ (Or.inl ?_), fz cp c2.1 c2.2.1 c2.2.2.1 c2.2.2.2]
        · exact h.2.2.2 i (by omega) j hj
        · have hj4 : j < 4 := by
            by_cases g : (posL fi sh I J R tg s0 j0 (i + 1)).1 < 20 ∧ (posL fi sh I J R tg s0 j0 (i + 1)).2 < 6
            · obtain ⟨b', ma', f', fs', fac', y1, y2, y3, y4, y5, y6, y7, y8, y9, y10, -⟩ := memF oR a4.1 a4.2.1 g.1 g.2
              rw [y8] at hj
              have ga := rf_5_2 oI y9 y10
              have na := nat_of ga.1
              have := ga.2
              omega
            · exact absurd (hpo i (by omega)) g
          omega
    · have nq : ∀ c r', C c = r' → r' ≠ 96 → z ≠ c := fun c r' hc h1 e => h1 (by rw [← hc, ← e]; exact hz)
      rw [l5 z (nq mo 11 km (by decide)) (nq cl 97 i50.2.1 (by decide)) (nq cp 98 i51.2.1 (by decide)), fz z (nq mo 11 km (by decide)) (nq pl 90 i38.2.1 (by decide)) (nq bp 91 i39.2.1 (by decide)) (nq fp 92 i43.2.1 (by decide))]
end CHM
