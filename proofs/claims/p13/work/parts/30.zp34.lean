theorem st_fit {L : List Nat} {C : Nat → Nat} {x mo : Nat} {I I1 I2 : hI} {J J1 J2 : hJ} {R R1 R2 : hR} (uq : Uq L C) (mx : x ∈ L) (kx : C x = 10) (mm : mo ∈ L) (km : C mo = 11) (oI : OkI L C I) (oR : OkR L C R) (ow0 : Ow L C R) (rel : RF L C x mo (I, J, R)) {x1 : Int32} {x2 : Int32} {x3 : Int32} {x4 : Int32} {ra rb : Int32} (fa : F_X10_fit x x1 x2 x3 x4 I J R = (ra, (I1, J1, R1))) (sa : Sm C ms_X10_fit (I, J, R) (I1, J1, R1)) (oI1 : OkI L C I1) (oR1 : OkR L C R1) (fb : F_X11_fit mo x1 x2 x3 x4 I1 J1 R1 = (rb, (I2, J2, R2))) (sb : Sm C ms_X11_fit (I1, J1, R1) (I2, J2, R2)) (oI2 : OkI L C I2) (oR2 : OkR L C R2) : RF L C x mo (I2, J2, R2) ∧ ra = rb := by
  have rel1 : RF L C x mo (I1, J1, R1) := RF.sm rel oR1 sa (by decide)
  refine ⟨RF.sm rel1 oR2 sb (by decide), ?_⟩
  clear rel1
  have eR : R1 = R := by
    have e : (F_X10_fit x x1 x2 x3 x4 I J R).2.2.2 = R := by
      simp only [F_X10_fit, nm, nmU]
      repeat' split
      all_goals rfl
    rw [fa] at e
    exact e
  have eJ : J1 = J := by
    have e : (F_X10_fit x x1 x2 x3 x4 I J R).2.2.1 = J := by
      simp only [F_X10_fit, nm, nmU]
      repeat' split
      all_goals rfl
    rw [fa] at e
    exact e
  have hI1 : ∀ z r, C z = r → r ∉ exC → I1 z = I z := fun z r h hz => smF sa h (fun c hc e => hz (by rw [← e]; exact (by decide : ∀ c ∈ ms_X10_fit, c / 64 ∈ exC) c hc))
  have fa1 : (F_X10_fit x x1 x2 x3 x4 I J R).1 = ra := by rw [fa]
  have fb1 : (F_X11_fit mo x1 x2 x3 x4 I1 J1 R1).1 = rb := by rw [fb]
  rw [← fa1, ← fb1]
  clear fa fb fa1 fb1 sa sb
  subst eR eJ
  obtain ⟨fi, t, p, pl, bp, fp, sh, m8, y10, K, f0, f3, f6, i38, i39, i43, f4, g8, g10, hms, ⟨K8, K10, -⟩, hsz, hfit⟩ := fxE (J1 := J1) uq mx kx mm km oI oR rel oI1 hI1
  simp only [F_X10_fit, F_X11_fit, nm, nmU, nmW, isFS, isW, inM, ite1, Int32.toInt_toInt64, cJ0, cJ9, cJ19, cI0, cI5, show Int64.toInt 5 = 5 by decide, f0.2.2, f4.2.2, g10.2.2, i43.2.2, f6.2.2, Option.getD_some, apply_ite Prod.fst]
  by_cases h1 : 0 ≤ x1.toInt ∧ x1.toInt ≤ 9
  · by_cases h3 : 0 ≤ x3.toInt ∧ x3.toInt ≤ 19
    · simp only [if_pos h1, if_pos h3, if_pos (show (0 ≤ x1.toInt ∧ x1.toInt ≤ 9) ∧ (0 ≤ x3.toInt ∧ x3.toInt ≤ 19) from ⟨h1, h3⟩)]
      by_cases h4 : 0 ≤ x4.toInt ∧ x4.toInt ≤ 5
      · simp only [if_pos h4]
        have n1 := nat_of h1.1
        have n3 := nat_of h3.1
        obtain ⟨b1, mb1, vb1, kb1⟩ := rr_57 (i := 10 + x1) oR f4.1 f4.2.1 (vp_in_iff.mpr ⟨by rw [ten h1]; omega, by rw [ten h1]; omega⟩)
        obtain ⟨b, mb, vb, kb⟩ := rr_57 (i := x3) oR f4.1 f4.2.1 (vp_in_iff.mpr ⟨by omega, by omega⟩)
        have e10 : (10 + x1).toNatClampNeg = 10 + x1.toNatClampNeg := tenN h1
        have sz := hsz _ b1 (by rw [e10]; omega) vb1
        have gz := rf_7_1 oI mb1 kb1
        have hn8 : u2 I1 mo 0 0 m8 = I m8 := by rw [u2_ne (ne_role g8.2.1 km (by decide)), hI1 m8 70 g8.2.1 (by decide)]
        rw [hasM g8.2.2 (by rw [hn8, ← sz]; exact gz.1), hn8, ← sz]
        simp only [vb1, vb, Option.getD_some, hasC gz.1, ite1]
        by_cases h2 : 0 ≤ x2.toInt ∧ x2.toInt < (I b1 1).toInt
        · simp only [if_pos h2]
          have n2 := nat_of h2.1
          obtain ⟨ma1, mma, vma, kma⟩ := rf_7_0 oR mb1 kb1
          obtain ⟨f, mf, vf, kf⟩ := rr_56 (i := x2) oR mma kma (vp_in_iff.mpr ⟨h2.1, by have := gz.2; omega⟩)
          obtain ⟨o, acs, acm, -, hq, cl, md⟩ := hfit K (fun _ _ _ _ => rfl) _ _ _ b1 b ma1 f (by rw [e10]; omega) (by omega) vb1 vb (by have := gz.2; omega) (by omega) vma vf
          simp only [vma, vf, Option.getD_some]
          obtain ⟨Ic, q1, q2⟩ := cl I (fun _ _ _ _ => rfl) (fun _ _ _ => rfl)
          have eF : (6 * (10 + x1) + x2).toInt = ((6 * (10 + x1).toNatClampNeg + x2.toNatClampNeg : Nat) : Int) := by
            have gz2 := gz.2
            rw [iadd (imul (x := 6) cI6 (ten h1) (by omega) (by omega)) n2.symm (by omega) (by omega), e10]
            omega
          obtain ⟨Im, q3, q4⟩ := md J1 K (6 * (10 + x1) + x2) x3 eF n3.symm (fun _ _ _ _ _ => rfl) (fun _ _ _ _ => rfl)
          rw [hms]
          dsimp only
          rw [q1, q3]
          dsimp only
          cases o with
          | none => rfl
          | some q =>
            obtain ⟨u1, u2', u3, u4, u5, u6, u7, u8, u9⟩ := hq q rfl
            rcases q2.2.2 with ⟨z, -⟩ | ⟨z, m, l, z1, z2, -, z3, z4⟩
            · cases z
            · cases z1
              rcases q4.2.2 with ⟨y, -⟩ | ⟨y, m', l', y1, y2, -, y3, y4⟩
              · cases y
              · cases y1
                rw [if_pos (show (some (z, m, l)).isSome = true from rfl), if_pos (show (1 : Int32) = 1 from rfl), if_neg (show ¬ (1 : Int32) = 0 by decide)]
                by_cases w0 : x4 = 0
                · rw [if_pos w0, if_neg (show ¬ (2 : Int32) ≤ x4 by rw [w0]; decide), if_pos w0]
                  exact Int32.toInt_inj.mp (by rw [z2, y2])
                · rw [if_neg w0]
                  by_cases w1 : x4 = 1
                  · rw [if_pos w1, if_neg (show ¬ (2 : Int32) ≤ x4 by rw [w1]; decide), if_neg w0]
                    exact Int32.toInt_inj.mp (by rw [z3, y3])
                  · have v0 : x4.toInt ≠ 0 := fun q => w0 (by rw [ieq, q]; decide)
                    have v1 : x4.toInt ≠ 1 := fun q => w1 (by rw [ieq, q]; decide)
                    rw [if_neg w1, if_pos (show (2 : Int32) ≤ x4 by rw [ile, cI2]; omega)]
                    obtain ⟨mab, mmab, vmab, kmab⟩ := rf_7_0 oR mb kb
                    have h6 : m < 6 := u3
                    obtain ⟨c, mc, vc, kc⟩ := oR mab mmab m (by rw [kmab]; exact h6) (by rw [kmab]; exact fun e => absurd (show (6 : Nat) = 0 from e) (by decide))
                    rw [kmab] at kc
                    have kc : C c = 5 := Nat.succ.inj kc
                    have hac : (I c 2).toInt = acs m := u6 mab c vmab vc
                    have e4 : acs m = acm m := u4
                    have l4 : acs m ≤ 4 := u5
                    obtain ⟨j, hj⟩ : ∃ j : Nat, j = x4.toInt.toNat - 2 := ⟨_, rfl⟩
                    have hx : (x4 - 2).toInt = (j : Int) := by rw [isub rfl cI2 (by omega) (by omega)]; omega
                    simp only [vmab, clamp_toInt z3, vc, Option.getD_some, clamp_toInt hx]
                    rw [q2.1 c (ne_role kc f0.2.1 (by decide)) (ne_role kc f3.2.1 (by decide)) (ne_role kc f6.2.1 (by decide))]
                    have ix : (6 * x3 + Im mo 42).toNatClampNeg = 6 * x3.toNatClampNeg + m := clamp_toInt (by rw [iadd (imul (x := 6) cI6 n3.symm (by omega) (by omega)) y3 (by omega) (by omega)]; omega)
                    rw [ix, q4.1 y10 (ne_role g10.2.1 km (by decide)) (ne_role g10.2.1 i38.2.1 (by decide)) (ne_role g10.2.1 i39.2.1 (by decide)) (ne_role g10.2.1 i43.2.1 (by decide))]
                    have hk : (K y10 (6 * x3.toNatClampNeg + m)).toInt = acm m := u7
                    by_cases hlt : j < acs m
                    · rw [if_neg (show ¬ I c 2 ≤ x4 - 2 by rw [ile, hac, hx]; omega), if_pos (show x4 - 2 < K y10 (6 * x3.toNatClampNeg + m) by rw [ilt, hk, hx]; omega)]
                      have s1 := z4 j hlt
                      have s2 := y4 j (by omega)
                      rw [s1]
                      unfold cdg
                      by_cases d4 : l.getD j 0 = 4
                      · rw [if_pos d4, if_pos (show Im fp j = 4 by rw [ieq, s2, d4]; decide)]
                      · have l4' := u9 j hlt
                        have l4' : l.getD j 0 ≤ 4 := l4'
                        rw [if_neg d4, if_neg (show ¬ Im fp j = 4 by rw [ieq, s2, cI4]; omega)]
                        exact Int32.toInt_inj.mp (by rw [s2, Int32.toInt_ofNat_of_lt (by omega)])
                    · rw [if_pos (show I c 2 ≤ x4 - 2 by rw [ile, hac, hx]; omega), if_neg (show ¬ x4 - 2 < K y10 (6 * x3.toNatClampNeg + m) by rw [ilt, hk, hx]; omega)]
        · simp only [if_neg h2]
      · simp only [if_neg h4]
    · simp only [if_pos h1, if_neg h3, if_neg (show ¬ ((0 ≤ x1.toInt ∧ x1.toInt ≤ 9) ∧ (0 ≤ x3.toInt ∧ x3.toInt ≤ 19)) from fun q => h3 q.2)]
  · simp only [if_neg h1, if_neg (show ¬ ((0 ≤ x1.toInt ∧ x1.toInt ≤ 9) ∧ (0 ≤ x3.toInt ∧ x3.toInt ≤ 19)) from fun q => h1 q.1)]
