theorem st_gap {L : List Nat} {C : Nat → Nat} {x mo : Nat} {I I1 I2 : hI} {J J1 J2 : hJ} {R R1 R2 : hR} (uq : Uq L C) (mx : x ∈ L) (kx : C x = 10) (mm : mo ∈ L) (km : C mo = 11) (oI : OkI L C I) (oR : OkR L C R) (ow0 : Ow L C R) (rel : RF L C x mo (I, J, R)) {x1 : Int32} {x2 : Int32} {ra rb : Int32} (fa : F_X10_gap x x1 x2 I J R = (ra, (I1, J1, R1))) (sa : Sm C ms_X10_gap (I, J, R) (I1, J1, R1)) (oI1 : OkI L C I1) (oR1 : OkR L C R1) (fb : F_X11_gap mo x1 x2 I1 J1 R1 = (rb, (I2, J2, R2))) (sb : Sm C ms_X11_gap (I1, J1, R1) (I2, J2, R2)) (oI2 : OkI L C I2) (oR2 : OkR L C R2) : RF L C x mo (I2, J2, R2) ∧ ra = rb := by
  have rel1 : RF L C x mo (I1, J1, R1) := RF.sm rel oR1 sa (by decide)
  refine ⟨RF.sm rel1 oR2 sb (by decide), ?_⟩
  clear rel1
  have eR : R1 = R := by
    have e : (F_X10_gap x x1 x2 I J R).2.2.2 = R := by
      simp only [F_X10_gap, nm, nmU]
      repeat' split
      all_goals rfl
    rw [fa] at e
    exact e
  have eJ : J1 = J := by
    have e : (F_X10_gap x x1 x2 I J R).2.2.1 = J := by
      simp only [F_X10_gap, nm, nmU]
      repeat' split
      all_goals rfl
    rw [fa] at e
    exact e
  have hI1 : ∀ z r, C z = r → r ∉ exC → I1 z = I z := fun z r h hz => smF sa h (fun c hc e => hz (by rw [← e]; exact (by decide : ∀ c ∈ ms_X10_gap, c / 64 ∈ exC) c hc))
  have fa1 : (F_X10_gap x x1 x2 I J R).1 = ra := by rw [fa]
  have fb1 : (F_X11_gap mo x1 x2 I1 J1 R1).1 = rb := by rw [fb]
  rw [← fa1, ← fb1]
  clear fa fb fa1 fb1 sa sb
  subst eR eJ
  obtain ⟨fi, t, p, pl, bp, fp, sh, m8, y10, K, f0, f3, f6, i38, i39, i43, f4, g8, g10, hms, ⟨K8, K10, -⟩, hsz, hfit⟩ := fxE (J1 := J1) uq mx kx mm km (fun _ _ _ _ => rfl) oI oR rel oI1 hI1
  simp only [F_X10_gap, F_X11_gap, F_X11_gap_29, nm, nmU, nmW, isFS, inM, ite1, Int32.toInt_toInt64, cJ0, cJ9, cJ19, f0.2.2, f4.2.2, Option.getD_some, apply_ite Prod.fst]
  by_cases h1 : 0 ≤ x1.toInt ∧ x1.toInt ≤ 9
  · by_cases h3 : 0 ≤ x2.toInt ∧ x2.toInt ≤ 19
    · simp only [if_pos h1, if_pos h3, if_pos (show (0 ≤ x1.toInt ∧ x1.toInt ≤ 9) ∧ (0 ≤ x2.toInt ∧ x2.toInt ≤ 19) from ⟨h1, h3⟩)]
      have n1 := nat_of h1.1
      have n3 := nat_of h3.1
      obtain ⟨b1, mb1, vb1, kb1⟩ := rr_57 (i := 10 + x1) oR f4.1 f4.2.1 (vp_in_iff.mpr ⟨by rw [ten h1]; omega, by rw [ten h1]; omega⟩)
      obtain ⟨b, mb, vb, kb⟩ := rr_57 (i := x2) oR f4.1 f4.2.1 (vp_in_iff.mpr ⟨by omega, by omega⟩)
      have e10 : (10 + x1).toNatClampNeg = 10 + x1.toNatClampNeg := tenN h1
      have sz := hsz _ b1 (by rw [e10]; omega) vb1
      have gz := rf_7_1 oI mb1 kb1
      obtain ⟨ma1, mma, vma, kma⟩ := rf_7_0 oR mb1 kb1
      have hfam : ∀ j, j < (I b1 1).toNatClampNeg → ∃ f, R1 ma1 j = some f ∧ FitB I K J1 R1 mo fi f b x2.toNatClampNeg y10 (6 * (10 + x1).toNatClampNeg + j) t p pl bp fp := fun j hj => by
        have hn := nat_of gz.1
        have h6 : j < 6 := by have := gz.2; omega
        obtain ⟨f, mf, vf, -⟩ := oR ma1 mma j (by rw [kma]; exact h6) (by rw [kma]; exact fun e => absurd (show (6 : Nat) = 0 from e) (by decide))
        exact ⟨f, vf, hfit K (fun _ _ _ _ => rfl) _ _ _ b1 b ma1 f (by rw [e10]; omega) (by omega) vb1 vb h6 (by omega) vma vf⟩
      simp only [vb1, vb, Option.getD_some]
      rw [hms]
      dsimp only
      exact gap_l (J' := J1) (x1 := x1) (x2 := x2) g8.2.2 ⟨ne_role g8.2.1 km (by decide), ne_role g8.2.1 i38.2.1 (by decide), ne_role g8.2.1 i39.2.1 (by decide), ne_role g8.2.1 i43.2.1 (by decide)⟩ ⟨ne_role kb1 f0.2.1 (by decide), ne_role kb1 f3.2.1 (by decide), ne_role kb1 f6.2.1 (by decide)⟩ vma (show (10 + x1).toInt = ((10 + x1).toNatClampNeg : Nat) by rw [e10, ten h1]; omega) n3.symm (by rw [e10]; omega) (nat_of gz.1).symm (by rw [K8, ← sz]; exact (nat_of gz.1).symm) (by have := gz.2; have := nat_of gz.1; omega) hfam (I b1 1).toNatClampNeg 7 7 0 I K 0 (by decide) (by omega) (by have := gz.2; have := nat_of gz.1; omega) (by have := gz.2; have := nat_of gz.1; omega) ⟨fun _ _ _ _ => rfl, fun _ _ _ => rfl⟩ ⟨fun _ _ _ _ _ => rfl, fun _ _ _ _ => rfl⟩
    · simp only [if_pos h1, if_neg h3, if_neg (show ¬ ((0 ≤ x1.toInt ∧ x1.toInt ≤ 9) ∧ (0 ≤ x2.toInt ∧ x2.toInt ≤ 19)) from fun q => h3 q.2)]
  · simp only [if_neg h1, if_neg (show ¬ ((0 ≤ x1.toInt ∧ x1.toInt ≤ 9) ∧ (0 ≤ x2.toInt ∧ x2.toInt ≤ 19)) from fun q => h1 q.1)]
