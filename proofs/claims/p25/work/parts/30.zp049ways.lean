/-! the cache of the ways -/
def RK (L : List Nat) (C : Nat → Nat) (x mo : Nat) (u : hU) : Prop := ∀ fi sh wy ww, u.2.2 x 3 = some fi → u.2.2 x 4 = some sh → u.2.2 x 5 = some wy → u.2.2 wy 2 = some ww → ∀ q, q < 100 → u.1 ww q = -1 ∨ u.1 ww q = encW (cP fi sh q u) q
def RW (L : List Nat) (C : Nat → Nat) (x mo : Nat) (u : hU) : Prop := (Uq L C ∧ x ∈ L ∧ mo ∈ L ∧ OkI L C u.1 ∧ OkR L C u.2.2) ∧ RF L C x mo u ∧ RK L C x mo u
theorem FrC.rf {fi t p : Nat} {I : hI} : FrC fi t p I I := ⟨fun _ _ _ _ => rfl, fun _ _ _ => rfl⟩
theorem shE {L : List Nat} {C : Nat → Nat} {R : hR} {sh s : Nat} (oR : OkR L C R) (msh : sh ∈ L) (ksh : C sh = 57) (hs : s < 20) : ∃ b, R sh s = some b ∧ b ∈ L ∧ C b = 7 := by
  obtain ⟨b, h1, h2, h3⟩ := oR sh msh s (by rw [ksh]; exact hs) (by rw [ksh]; exact fun e => absurd (show (8 : Nat) = 0 from e) (by decide))
  rw [ksh] at h3
  exact ⟨b, h2, h1, Nat.succ.inj h3⟩
section RKS
variable {L : List Nat} {C : Nat → Nat} {x mo : Nat} {I I' : hI} {J J' : hJ} {R R' : hR}
theorem RK.new {ww : Nat} (uq : Uq L C) (oR : OkR L C R') (mx : x ∈ L) (kx : C x = 10) (mw : ww ∈ L) (kw : C ww = 45) (h : ∀ q, q < 100 → I' ww q = -1) : RK L C x mo (I', J', R') := fun fi sh wy ww' h1 h2 h3 h4 q hq => by
  obtain ⟨wy', m1, v1, k1⟩ := rf_10_5 oR mx kx
  obtain ⟨w2, m2, v2, k2⟩ := rf_9_2 oR m1 k1
  obtain rfl : wy' = wy := Option.some.inj (v1.symm.trans h3)
  obtain rfl : w2 = ww' := Option.some.inj (v2.symm.trans h4)
  obtain rfl : w2 = ww := uq _ m2 _ mw (k2.trans kw.symm) (by rw [k2]; rfl)
  exact Or.inl (h q hq)
theorem RK.of (uq : Uq L C) (mx : x ∈ L) (kx : C x = 10) (mm : mo ∈ L) (km : C mo = 11) (oI : OkI L C I) (oR : OkR L C R) (rel : RF L C x mo (I, J, R)) (rk : RK L C x mo (I, J, R)) (oI' : OkI L C I') (oR' : OkR L C R') (rel' : RF L C x mo (I', J', R')) {fi t p sh ru w al pa co ct wy ww : Nat} (cl : ClF L C x R fi t p sh ru w al pa co ct) (cl' : ClF L C x R' fi t p sh ru w al pa co ct)
    (a5 : At L C R x 5 wy 9) (a5' : At L C R' x 5 wy 9) (aw : At L C R wy 2 ww 45) (aw' : At L C R' wy 2 ww 45) (ew : I' w = I w) (ea : I' al 1 = I al 1) (ep : I' pa = I pa) (ec : I' ct = I ct)
    (hq : ∀ q, q < 100 → I' ww q = -1 ∨ (I' ww q = I ww q ∨ I' ww q = encW (cP fi sh q (I, J, R)) q) ∧ ∀ s, (s = 10 + q % 10 ∨ s = 10 + q / 10) → R' sh s = R sh s ∧ ∀ b, R sh s = some b → MSame I I' R R' b) : RK L C x mo (I', J', R') := by
  intro fi' sh' wy' ww' h1 h2 h3 h4 q hq100
  obtain rfl : fi = fi' := Option.some.inj (cl'.1.2.2.symm.trans h1)
  obtain rfl : sh = sh' := Option.some.inj (cl'.2.2.2.1.2.2.symm.trans h2)
  obtain rfl : wy = wy' := Option.some.inj (a5'.2.2.symm.trans h3)
  obtain rfl : ww = ww' := Option.some.inj (aw'.2.2.symm.trans h4)
  rcases hq q hq100 with h | ⟨h, hs⟩
  · exact Or.inl h
  · obtain ⟨b1, vb1, mb1, kb1⟩ := shE oR cl.2.2.2.1.1 cl.2.2.2.1.2.1 (show 10 + q % 10 < 20 by omega)
    obtain ⟨b, vb, mb, kb⟩ := shE oR cl.2.2.2.1.1 cl.2.2.2.1.2.1 (show 10 + q / 10 < 20 by omega)
    obtain ⟨s1, s2⟩ := hs _ (Or.inl rfl)
    obtain ⟨s3, s4⟩ := hs _ (Or.inr rfl)
    obtain ⟨ra, Ic, Ic', c1, c2, -, -⟩ := costE uq mx kx mm km oI oR rel oI' oR' rel' cl cl' ew ea ep ec (show 10 + q % 10 < 20 by omega) (show 10 + q / 10 < 20 by omega) vb1 vb (s1.trans vb1) (s3.trans vb) (s2 b1 vb1) (s4 b vb) FrC.rf FrC.rf
    have e : cP fi sh q (I', J', R') = cP fi sh q (I, J, R) := by
      show (F_X3_costOfAll fi ((R' sh (10 + q % 10)).getD 0) ((R' sh (10 + q / 10)).getD 0) I' J' R').1 = (F_X3_costOfAll fi ((R sh (10 + q % 10)).getD 0) ((R sh (10 + q / 10)).getD 0) I J R).1
      rw [s1, s3, vb1, vb]
      simp only [Option.getD_some]
      rw [c1, c2]
    show I' ww q = -1 ∨ I' ww q = encW (cP fi sh q (I', J', R')) q
    rw [e]
    rcases h with h | h
    · rw [h]
      exact rk fi sh wy ww cl.1.2.2 cl.2.2.2.1.2.2 a5.2.2 aw.2.2 q hq100
    · exact Or.inr h
end RKS
def codesL : List Nat := [643, 644, 645, 192, 193, 194, 195, 198, 578, 3648, 448, 449, 3584, 320, 321, 322, 323, 3456, 392, 2432, 0, 1, 2560, 128, 2624]
def codesK : List Nat := 2880 :: codesL
theorem ClF.sm {L : List Nat} {C : Nat → Nat} {x : Nat} {ms : List Nat} {u v : hU} {fi t p sh ru w al pa co ct : Nat} (cl : ClF L C x u.2.2 fi t p sh ru w al pa co ct) (kx : C x = 10) (s : Sm C ms u v) (hn : ∀ z ∈ codesL, ms.contains z = false) : ClF L C x v.2.2 fi t p sh ru w al pa co ct := by
  obtain ⟨c1, c2, c3, c4, c5, c6, c7, c8, c9, c10⟩ := cl
  exact ⟨c1.sm s kx (hn 643 (by decide)), c2.sm s c1.2.1 (hn 195 (by decide)), c3.sm s c1.2.1 (hn 198 (by decide)), c4.sm s kx (hn 644 (by decide)), c5.sm s c1.2.1 (hn 192 (by decide)), c6.sm s c5.2.1 (hn 392 (by decide)), c7.sm s c1.2.1 (hn 193 (by decide)), c8.sm s c7.2.1 (hn 0 (by decide)), c9.sm s c1.2.1 (hn 194 (by decide)), c10.sm s c9.2.1 (hn 128 (by decide))⟩
theorem MSame.sm {L : List Nat} {C : Nat → Nat} {ms : List Nat} {u v : hU} {b : Nat} (oR : OkR L C u.2.2) (mb : b ∈ L) (kb : C b = 7) (s : Sm C ms u v) (hn : ∀ z ∈ codesL, ms.contains z = false) : MSame u.1 v.1 u.2.2 v.2.2 b := by
  refine ⟨smO (k := 1) s kb (hn 449 (by decide)), (s b 0 (by rw [kb]; exact nm_obj (hn 448 (by decide)))).2.2, fun ma vma j hj => ?_⟩
  obtain ⟨ma', mma, vma', kma⟩ := rf_7_0 oR mb kb
  obtain rfl : ma' = ma := Option.some.inj (vma'.symm.trans vma)
  refine ⟨(s ma' j (by rw [kma]; exact nm_arr (by decide) (hn 3584 (by decide)))).2.2, fun c vc => ?_⟩
  obtain ⟨f, mf, vf, kf⟩ := oR ma' mma j (by rw [kma]; exact hj) (by rw [kma]; exact fun e => absurd (show (6 : Nat) = 0 from e) (by decide))
  rw [kma] at kf
  have kf : C f = 5 := Nat.succ.inj kf
  obtain rfl : f = c := Option.some.inj (vf.symm.trans vc)
  refine ⟨smO (k := 0) s kf (hn 320 (by decide)), smO (k := 1) s kf (hn 321 (by decide)), smO (k := 2) s kf (hn 322 (by decide)), (s f 3 (by rw [kf]; exact nm_obj (hn 323 (by decide)))).2.2, fun q vq => ?_⟩
  obtain ⟨fs, mfs, vfs, kfs⟩ := rf_5_3 oR mf kf
  obtain rfl : fs = q := Option.some.inj (vfs.symm.trans vq)
  exact smA s kfs (by decide) (hn 3456 (by decide))
theorem RK.wr {L : List Nat} {C : Nat → Nat} {x mo : Nat} {ms : List Nat} {u v : hU} (uq : Uq L C) (mx : x ∈ L) (mm : mo ∈ L) (oI : OkI L C u.1) (oR : OkR L C u.2.2) (rel : RF L C x mo u) (rk : RK L C x mo u) (oI' : OkI L C v.1) (oR' : OkR L C v.2.2) (rel' : RF L C x mo v) (s : Sm C ms u v) (hm : codesL.all (fun z => !ms.contains z) = true) (hw : ∀ fi sh wy ww, u.2.2 x 3 = some fi → u.2.2 x 4 = some sh → At L C u.2.2 x 5 wy 9 → At L C u.2.2 wy 2 ww 45 → ∀ q, q < 100 → v.1 ww q = u.1 ww q ∨ v.1 ww q = encW (cP fi sh q u) q) : RK L C x mo v := by
  have kx : C x = 10 := rel.1.1
  have km : C mo = 11 := rel.1.2.1
  have hn : ∀ z ∈ codesL, ms.contains z = false := fun z hz => by have := List.all_eq_true.mp hm z hz; simpa using this
  obtain ⟨fi, t, p, sh, ru, w, al, pa, co, ct, cl⟩ := ClF.get oR mx kx
  obtain ⟨wy, m1, v1, k1⟩ := rf_10_5 oR mx kx
  obtain ⟨ww, m2, v2, k2⟩ := rf_9_2 oR m1 k1
  have a5 : At L C u.2.2 x 5 wy 9 := ⟨m1, k1, v1⟩
  have aw : At L C u.2.2 wy 2 ww 45 := ⟨m2, k2, v2⟩
  obtain ⟨I, J, R⟩ := u
  obtain ⟨I', J', R'⟩ := v
  refine RK.of uq mx kx mm km oI oR rel rk oI' oR' rel' cl (cl.sm kx s hn) a5 (a5.sm s kx (hn 645 (by decide))) aw (aw.sm s k1 (hn 578 (by decide))) (smA s cl.2.2.2.2.2.1.2.1 (by decide) (hn 2432 (by decide))) (smO (k := 1) s cl.2.2.2.2.2.2.1.2.1 (hn 1 (by decide))) (smA s cl.2.2.2.2.2.2.2.1.2.1 (by decide) (hn 2560 (by decide))) (smA s cl.2.2.2.2.2.2.2.2.2.2.1 (by decide) (hn 2624 (by decide))) (fun q hq => Or.inr ⟨hw fi sh wy ww cl.1.2.2 cl.2.2.2.1.2.2 a5 aw q hq, fun z hz => ⟨(s sh z (by rw [cl.2.2.2.1.2.1]; exact nm_arr (by decide) (hn 3648 (by decide)))).2.2, fun b vb => ?_⟩⟩)
  have hz20 : z < 20 := by omega
  obtain ⟨mb, kb⟩ := shapeAt oR cl.2.2.2.1.1 cl.2.2.2.1.2.1 hz20 vb
  exact MSame.sm oR mb kb s hn
theorem RK.sm {L : List Nat} {C : Nat → Nat} {x mo : Nat} {ms : List Nat} {u v : hU} (uq : Uq L C) (mx : x ∈ L) (mm : mo ∈ L) (oI : OkI L C u.1) (oR : OkR L C u.2.2) (rel : RF L C x mo u) (rk : RK L C x mo u) (oI' : OkI L C v.1) (oR' : OkR L C v.2.2) (rel' : RF L C x mo v) (s : Sm C ms u v) (hm : codesK.all (fun z => !ms.contains z) = true) : RK L C x mo v := by
  have hm' : (!ms.contains 2880 && codesL.all (fun z => !ms.contains z)) = true := hm
  rw [Bool.and_eq_true] at hm'
  exact RK.wr uq mx mm oI oR rel rk oI' oR' rel' s hm'.2 (fun fi sh wy ww _ _ _ aw q hq => Or.inl (congrFun (smA s aw.2.1 (by decide) (by simpa using hm'.1)) q))
theorem RW.sm {L : List Nat} {C : Nat → Nat} {x mo : Nat} {ms : List Nat} {u v : hU} (rel : RW L C x mo u) (oI : OkI L C v.1) (oR : OkR L C v.2.2) (s : Sm C ms u v) (hm : (codesK ++ (codesR ++ (codesM ++ ([641, 0, 1, 721, 722, 2560, 5056] ++ [642, 128, 129, 723, 724, 2624, 2688, 5120, 5184])))).all (fun z => !ms.contains z) = true) : RW L C x mo v := by
  rw [List.all_append, Bool.and_eq_true] at hm
  obtain ⟨⟨uq, mx, mm, o1, o2⟩, r1, r2⟩ := rel
  have r3 := RF.sm r1 oR s hm.2
  exact ⟨⟨uq, mx, mm, oI, oR⟩, r3, RK.sm uq mx mm o1 o2 r1 r2 oI oR r3 s hm.1⟩
theorem Sm.app {C : Nat → Nat} {m1 m2 : List Nat} {u w v : hU} (a : Sm C m1 u w) (b : Sm C m2 w v) : Sm C (m1 ++ m2) u v := fun c k h => by
  obtain ⟨a1, a2, a3⟩ := a c k (fun q => h (List.mem_append_left _ q))
  obtain ⟨b1, b2, b3⟩ := b c k (fun q => h (List.mem_append_right _ q))
  exact ⟨b1.trans a1, b2.trans a2, b3.trans a3⟩
/-- a face is forgotten -/
theorem forgetQ_l {w ww : Nat} {x1 : Int32} {a : Nat} {J : hJ} {R : hR} (v : R w 2 = some ww) (ha : x1.toInt = a) (ba : a < 10) {I0 : hI} : ∀ (f n : Nat) (I : hI) (i : Int32), i.toInt = n → n ≤ 10 → 11 ≤ f + n → (∀ c, c ≠ ww → I c = I0 c) → (∀ q, q < 100 → I ww q = if (q / 10 = a ∧ q % 10 < n) ∨ (q % 10 = a ∧ q / 10 < n) then -1 else I0 ww q) →
    ∃ I1, F_X9_forgetFace_2 w x1 f I J R i = (I1, J, R) ∧ (∀ c, c ≠ ww → I1 c = I0 c) ∧ ∀ q, q < 100 → I1 ww q = if q / 10 = a ∨ q % 10 = a then -1 else I0 ww q := by
  intro f
  induction f with
  | zero => intro n I i _ h1 h2; omega
  | succ f ih =>
    intro n I i hi h1 h2 hc hI
    rw [F_X9_forgetFace_2_s]
    simp only [B_X9_forgetFace_2, nm, v, Option.getD_some]
    by_cases h4 : n = 10
    · rw [if_pos (by rw [ile, hi, cI10]; omega)]
      refine ⟨I, rfl, hc, fun q hq => ?_⟩
      rw [hI q hq]
      by_cases z : q / 10 = a ∨ q % 10 = a
      · rw [if_pos z, if_pos (by omega)]
      · rw [if_neg z, if_neg (by omega)]
    · rw [if_neg (by rw [ile, hi, cI10]; omega)]
      have i1 : (x1 * 10 + i).toNatClampNeg = a * 10 + n := idx2 ha hi (show Int32.toInt 10 = ((10 : Nat) : Int) by decide) (by omega)
      have i2 : (i * 10 + x1).toNatClampNeg = n * 10 + a := idx2 hi ha (show Int32.toInt 10 = ((10 : Nat) : Int) by decide) (by omega)
      rw [i1, i2]
      refine ih (n + 1) (u2 (u2 I ww (a * 10 + n) (-1)) ww (n * 10 + a) (-1)) (i + 1) (by rw [add1 (b := 10) (by omega) (by omega), hi]; omega) (by omega) (by omega) (fun c q => by rw [u2_ne q, u2_ne q, hc c q]) (fun q hq => ?_)
      by_cases z1 : q = n * 10 + a
      · rw [z1, u2_at, if_pos (by omega)]
      · rw [u2_nk z1]
        by_cases z2 : q = a * 10 + n
        · rw [z2, u2_at, if_pos (by omega)]
        · rw [u2_nk z2, hI q hq]
          by_cases z : (q / 10 = a ∧ q % 10 < n) ∨ (q % 10 = a ∧ q / 10 < n)
          · rw [if_pos z, if_pos (by omega)]
          · rw [if_neg z, if_neg (by omega)]
theorem forgetQ {w ww : Nat} {x1 : Int32} {a : Nat} {I : hI} {J : hJ} {R : hR} (v : R w 2 = some ww) (ha : x1.toInt = a) (ba : a < 10) : ∃ I1, F_X9_forgetFace w x1 I J R = (I1, J, R) ∧ (∀ c, c ≠ ww → I1 c = I c) ∧ ∀ q, q < 100 → I1 ww q = if q / 10 = a ∨ q % 10 = a then -1 else I ww q :=
  forgetQ_l v ha ba 11 0 I 0 (by decide) (by omega) (by omega) (fun _ _ => rfl) (fun q hq => by rw [if_neg (by omega)])
/-- what belongs to another shape -/
theorem MSame.oth {L : List Nat} {C : Nat → Nat} {R : hR} {I I' : hI} {b b' me so fac : Nat} (ow0 : Ow L C R) (oR : OkR L C R) (mb : b ∈ L) (kb : C b = 7) (mb' : b' ∈ L) (kb' : C b' = 7) (hne : b' ≠ b) {ma : Nat} {j0 : Nat} (hj0 : j0 < 6) (vma : R b 0 = some ma) (vme : R ma j0 = some me) (vso : R me 3 = some so) (hI : ∀ z, (C z = 7 ∨ C z = 5 ∨ C z = 54) → z ≠ b → z ≠ me → z ≠ so → I' z = I z) : MSame I I' R R b' := by
  obtain ⟨ma1, mma1, vma1, kma1⟩ := rf_7_0 oR mb kb
  obtain rfl : ma1 = ma := Option.some.inj (vma1.symm.trans vma)
  obtain ⟨me1, mme, vme1, kme⟩ := oR ma1 mma1 j0 (by rw [kma1]; exact hj0) (by rw [kma1]; exact fun e => absurd (show (6 : Nat) = 0 from e) (by decide))
  rw [kma1] at kme
  have kme : C me1 = 5 := Nat.succ.inj kme
  obtain rfl : me1 = me := Option.some.inj (vme1.symm.trans vme)
  obtain ⟨so1, mso, vso1, kso⟩ := rf_5_3 oR mme kme
  obtain rfl : so1 = so := Option.some.inj (vso1.symm.trans vso)
  have e1 : I' b' 1 = I b' 1 := by rw [hI b' (Or.inl kb') hne (ne_role kb' kme (by decide)) (ne_role kb' kso (by decide))]
  refine ⟨e1, rfl, fun ma' vma' j hj => ⟨rfl, fun c vc => ?_⟩⟩
  obtain ⟨ma2, mma2, vma2, kma2⟩ := rf_7_0 oR mb' kb'
  obtain rfl : ma2 = ma' := Option.some.inj (vma2.symm.trans vma')
  obtain ⟨c1, mc, vc1, kc⟩ := oR ma2 mma2 j (by rw [kma2]; exact hj) (by rw [kma2]; exact fun e => absurd (show (6 : Nat) = 0 from e) (by decide))
  rw [kma2] at kc
  have kc : C c1 = 5 := Nat.succ.inj kc
  obtain rfl : c1 = c := Option.some.inj (vc1.symm.trans vc)
  have n1 : ma2 ≠ ma1 := fun e => hne (ow0 b' mb' b mb 0 0 ma2 (kb'.trans kb.symm) (by rw [kb']; rfl) (by rw [kb]; rfl) vma2 (by rw [e]; exact vma1)).1
  have o56 : ∀ i, i < 6 → ow 56 i = true := fun i h => by simp [ow, Nat.blt_eq]; exact h
  have n2 : c1 ≠ me1 := fun e => n1 (ow0 ma2 mma2 ma1 mma1 j j0 c1 (kma2.trans kma1.symm) (by rw [kma2]; exact o56 j hj) (by rw [kma1]; exact o56 j0 hj0) vc1 (by rw [e]; exact vme1)).1
  have e2 : I' c1 = I c1 := hI c1 (Or.inr (Or.inl kc)) (ne_role kc kb (by decide)) n2 (ne_role kc kso (by decide))
  rw [e2]
  refine ⟨rfl, rfl, rfl, rfl, fun s vs => ?_⟩
  obtain ⟨s1, ms1, vs1, ks1⟩ := rf_5_3 oR mc kc
  obtain rfl : s1 = s := Option.some.inj (vs1.symm.trans vs)
  have n3 : s1 ≠ so1 := fun e => n2 (ow0 c1 mc me1 mme 3 3 s1 (kc.trans kme.symm) (by rw [kc]; rfl) (by rw [kme]; rfl) vs1 (by rw [e]; exact vso1)).1
  exact hI s1 (Or.inr (Or.inr ks1)) (ne_role ks1 kb (by decide)) (ne_role ks1 kme (by decide)) n3
/-- only weights have changed -/
theorem MSame.oth' {L : List Nat} {C : Nat → Nat} {R : hR} {I I' : hI} {sh s b : Nat} (oR : OkR L C R) (msh : sh ∈ L) (ksh : C sh = 57) (hs : s < 20) (vb : R sh s = some b) (hI : ∀ c r, C c = r → r ≠ 45 → I' c = I c) : MSame I I' R R b := by
  obtain ⟨mb, kb⟩ := shapeAt oR msh ksh hs vb
  obtain ⟨ma, mma, vma, kma⟩ := rf_7_0 oR mb kb
  refine ⟨by rw [hI b 7 kb (by decide)], rfl, fun ma' vma' j hj => ⟨rfl, fun c vc => ?_⟩⟩
  obtain rfl : ma = ma' := Option.some.inj (vma.symm.trans vma')
  obtain ⟨c1, mc, vc1, kc⟩ := oR ma mma j (by rw [kma]; exact hj) (by rw [kma]; exact fun e => absurd (show (6 : Nat) = 0 from e) (by decide))
  rw [kma] at kc
  have kc : C c1 = 5 := Nat.succ.inj kc
  obtain rfl : c1 = c := Option.some.inj (vc1.symm.trans vc)
  rw [hI c1 5 kc (by decide)]
  refine ⟨rfl, rfl, rfl, rfl, fun q vq => ?_⟩
  obtain ⟨s1, ms1, vs1, ks1⟩ := rf_5_3 oR mc kc
  obtain rfl : s1 = q := Option.some.inj (vs1.symm.trans vq)
  exact hI s1 54 ks1 (by decide)
