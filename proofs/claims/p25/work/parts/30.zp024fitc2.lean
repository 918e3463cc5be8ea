/-! the best member of a shape, in the class -/
theorem hasE {al pa : Nat} {x1 x2 : Int32} {I : hI} {J : hJ} {R : hR} (v : R al 0 = some pa) (hs : 0 ≤ (I al 1).toInt ∧ (I al 1).toInt ≤ 30) :
    (F_X0_has al x1 x2 I J R = 0 ∧ ∀ i : Nat, (i : Int) < (I al 1).toInt → I pa i ≠ x1 * 100 + x2) ∨ (F_X0_has al x1 x2 I J R = 1 ∧ ∃ i : Nat, (i : Int) < (I al 1).toInt ∧ I pa i = x1 * 100 + x2) := by
  simp only [F_X0_has, nm]
  rcases place (J := J) (x1 := x1) (x2 := x2) v hs with ⟨h1, h2⟩ | ⟨i, h1, h2, h3⟩
  · rw [if_pos h1]
    exact Or.inl ⟨rfl, h2⟩
  · have hne : ¬ F_X0_placeOf al x1 x2 I J R = -1 := by rw [ieq, h3, cIm1]; omega
    rw [if_neg hne, if_neg hne]
    exact Or.inr ⟨rfl, i, h1, h2⟩
theorem has_congr {al pa : Nat} {x1 x2 : Int32} {I I0 : hI} {J : hJ} {R : hR} (v : R al 0 = some pa) (hs : 0 ≤ (I0 al 1).toInt ∧ (I0 al 1).toInt ≤ 30) (h1 : I al = I0 al) (h2 : I pa = I0 pa) : F_X0_has al x1 x2 I J R = F_X0_has al x1 x2 I0 J R := by
  have a := hasE (J := J) (x1 := x1) (x2 := x2) (I := I) v (by rw [h1]; exact hs)
  have b := hasE (J := J) (x1 := x1) (x2 := x2) (I := I0) v hs
  rw [h1, h2] at a
  rcases a with ⟨a1, a2⟩ | ⟨a1, i, a2, a3⟩
  · rcases b with ⟨b1, b2⟩ | ⟨b1, i, b2, b3⟩
    · rw [a1, b1]
    · exact absurd b3 (a2 i b2)
  · rcases b with ⟨b1, b2⟩ | ⟨b1, -⟩
    · exact absurd a3 (b2 i a2)
    · rw [a1, b1]
noncomputable def stC (al ru f c : Nat) (I0 : hI) (J : hJ) (R : hR) : Option Int :=
  if I0 f 0 = I0 c 0 then (if F_X6_costBetween ru (I0 c 1) (I0 f 1) I0 J R = -1 then none else some (F_X6_costBetween ru (I0 c 1) (I0 f 1) I0 J R).toInt)
  else if F_X0_has al (I0 f 0) (I0 c 0) I0 J R = 0 then none else (if F_X6_costBetween ru (I0 c 1) (I0 f 1) I0 J R = -1 then none else some ((F_X6_costBetween ru (I0 c 1) (I0 f 1) I0 J R).toInt + 2))
noncomputable def svC (al ru ct f fs c cs af ac : Nat) (I0 : hI) (J : hJ) (R : hR) : Option (Int × List Nat) := match stC al ru f c I0 J R with
  | none => none
  | some s => tf af (tcC ru fs cs I0 J R) (hcC ct cs I0) ac 0 0 s [] 1000000
theorem startE {fi ru w t p al f c : Nat} {I0 I : hI} {J : hJ} {R : hR} (v0 : R fi 0 = some ru) (v1 : R fi 1 = some al) (v8 : R ru 8 = some w) (hn : Nea fi t p I0 I) (hw : w ≠ fi ∧ w ≠ t ∧ w ≠ p) (hf : f ≠ fi ∧ f ≠ t ∧ f ≠ p) (hc : c ≠ fi ∧ c ≠ t ∧ c ≠ p) (hhas : F_X0_has al (I0 f 0) (I0 c 0) I J R = F_X0_has al (I0 f 0) (I0 c 0) I0 J R) (hcb : -1 ≤ (F_X6_costBetween ru (I0 c 1) (I0 f 1) I0 J R).toInt ∧ (F_X6_costBetween ru (I0 c 1) (I0 f 1) I0 J R).toInt ≤ 300) :
    (stC al ru f c I0 J R = none ∧ F_X3_startOf fi f c I J R = -1) ∨ ∃ s, stC al ru f c I0 J R = some s ∧ (F_X3_startOf fi f c I J R).toInt = s ∧ 0 ≤ s ∧ s ≤ 302 := by
  simp only [F_X3_startOf, F_X3_startOf_16, F_X3_startOf_41, F_X3_startOf_68, F_X3_startOf_77, nm, v0, v1, Option.getD_some]
  rw [hn f hf.1 hf.2.1 hf.2.2, hn c hc.1 hc.2.1 hc.2.2, cbw v8 (hn w hw.1 hw.2.1 hw.2.2), hhas]
  unfold stC
  have k2 : (F_X6_costBetween ru (I0 c 1) (I0 f 1) I0 J R + 2).toInt = (F_X6_costBetween ru (I0 c 1) (I0 f 1) I0 J R).toInt + 2 := iadd rfl cI2 (by omega) (by omega)
  generalize F_X6_costBetween ru (I0 c 1) (I0 f 1) I0 J R = cb at *
  by_cases e : I0 f 0 = I0 c 0
  · rw [if_pos e, if_pos e, if_neg (show ¬ (1 : Int32) = 0 by decide)]
    by_cases z : cb = -1
    · rw [if_pos z, if_pos z]
      exact Or.inl ⟨rfl, z⟩
    · rw [if_neg z, if_neg z, if_neg (show ¬ (1 : Int32) = 0 by decide)]
      have : cb.toInt ≠ -1 := fun q => z (by rw [ieq, q]; decide)
      exact Or.inr ⟨_, rfl, rfl, by omega, by omega⟩
  · rw [if_neg e, if_neg e, if_pos trivial]
    by_cases y : F_X0_has al (I0 f 0) (I0 c 0) I0 J R = 0
    · rw [if_pos y, if_pos y]
      exact Or.inl ⟨rfl, rfl⟩
    · rw [if_neg y, if_neg y]
      by_cases z : cb = -1
      · rw [if_pos z, if_pos z]
        exact Or.inl ⟨rfl, z⟩
      · rw [if_neg z, if_neg z, if_pos trivial]
        have : cb.toInt ≠ -1 := fun q => z (by rw [ieq, q]; decide)
        exact Or.inr ⟨_, rfl, k2, by omega, by omega⟩
theorem stC_eq {af ac m : Nat} {tc : Nat → Nat → Int} {hc : Nat → Bool} {s : Int} {o : Option (Int × Nat × List Nat)} (ht : ∀ d i, tc d i ≤ 300) (hs : s ≤ 302) (hac : ac ≤ 4) (ho : ∀ q, o = some q → q.1 < 1000000) :
    (match tf af tc hc ac 0 0 s [] (bo3 268435456 o) with
      | some q => some (q.1, m, q.2)
      | none => o) = stM o m (tf af tc hc ac 0 0 s [] 1000000) := by
  have hb := tf_bo (af := af) (hc := hc) ht ac 0 0 s []
  have hf := tf_fil (af := af) (tc := tc) (hc := hc) ac 0 0 s []
  generalize tf af tc hc ac 0 0 s [] = g at *
  cases o with
  | none =>
    have e := hf.2 1000000 268435456 (by decide)
    show (match g 268435456 with
      | some q => some (q.1, m, q.2)
      | none => none) = _
    cases hx : g 268435456 with
    | none => rw [hx] at e; rw [show g 1000000 = none from e]; rfl
    | some q =>
      have := (hb _ _ hx).2
      rw [hx, fil_some (by omega)] at e
      rw [e]
      exact (if_pos (show q.1 < 1000000 by omega)).symm
  | some p =>
    have hp := ho p rfl
    have e := hf.2 p.1 1000000 (by omega)
    show (match g p.1 with
      | some q => some (q.1, m, q.2)
      | none => some p) = _
    rw [e]
    cases hx : g 1000000 with
    | none => rfl
    | some q =>
      by_cases h : q.1 < p.1
      · rw [fil_some h]
        exact (if_pos h).symm
      · rw [fil_not h]
        exact (if_neg h).symm
def Cf (fi t p : Nat) (acs : Nat → Nat) (I0 I : hI) (o : Option (Int × Nat × List Nat)) : Prop := Nea fi t p I0 I ∧ (∀ k, k ≠ 4 → k ≠ 5 → I fi k = I0 fi k) ∧ ((o = none ∧ (I fi 4).toInt = 268435456 ∧ I fi 5 = -1) ∨ ∃ (z : Int) (m : Nat) (l : List Nat), o = some (z, m, l) ∧ (I fi 4).toInt = z ∧ z < 1000000 ∧ (I fi 5).toInt = (m : Int) ∧ ∀ j, j < acs m → I p j = cdg (l.getD j 0))
section FC
variable {fi ru w t p co ct al f fs sh ma af n : Nat} {cm csm acs : Nat → Nat} {I0 : hI} {J : hJ} {R : hR}
theorem find_l (v1 : R fi 1 = some al) (vsh : R sh 0 = some ma) (hsh : sh ≠ fi ∧ sh ≠ t ∧ sh ≠ p) (hn : (I0 sh 1).toInt = n) (hn6 : n ≤ 6) (haf : (I0 f 2).toInt = af) (haf4 : af ≤ 4)
    (hm : ∀ m, m < 6 → R ma m = some (cm m) ∧ Fcx R fi ru w t p co ct f (cm m) fs (csm m) ∧ (I0 (cm m) 2).toInt = acs m ∧ acs m ≤ 4 ∧ (∀ d i, d < 4 → i < 4 → -1 ≤ tcC ru fs (csm m) I0 J R d i ∧ tcC ru fs (csm m) I0 J R d i ≤ 300) ∧ (-1 ≤ (F_X6_costBetween ru (I0 (cm m) 1) (I0 f 1) I0 J R).toInt ∧ (F_X6_costBetween ru (I0 (cm m) 1) (I0 f 1) I0 J R).toInt ≤ 300))
    (hhas : ∀ (I : hI) (y : Int32), Nea fi t p I0 I → F_X0_has al (I0 f 0) y I J R = F_X0_has al (I0 f 0) y I0 J R) :
    ∀ (r g m : Nat) (I : hI) (xm : Int32) (o : Option (Int × Nat × List Nat)), xm.toInt = m → m + r = n → r < g → Cf fi t p acs I0 I o →
      ∃ I1, F_X3_find_13 fi f sh g I J R xm = (if (foM (fun m => svC al ru ct f fs (cm m) (csm m) af (acs m) I0 J R) r m o).isSome = true then 1 else 0, (I1, J, R)) ∧ Cf fi t p acs I0 I1 (foM (fun m => svC al ru ct f fs (cm m) (csm m) af (acs m) I0 J R) r m o) := by
  intro r
  induction r with
  | zero =>
    intro g m I xm o hxm hr hg hI
    obtain ⟨g', rfl⟩ : ∃ g', g = g' + 1 := ⟨g - 1, by omega⟩
    rw [F_X3_find_13_s]
    simp only [B_X3_find_13, nm]
    rw [hI.1 sh hsh.1 hsh.2.1 hsh.2.2, if_pos (by rw [ile, hn, hxm]; omega)]
    refine ⟨I, ?_, hI⟩
    rcases hI.2.2 with ⟨e1, e2, e3⟩ | ⟨z, m1, l, e1, e2, e3, e4, -⟩
    · rw [if_pos e3, e1]; rfl
    · rw [if_neg (show ¬ I fi 5 = -1 by rw [ieq, e4, cIm1]; omega), e1]; rfl
  | succ r ih =>
    intro g m I xm o hxm hr hg hI
    obtain ⟨i1, i2, i3⟩ := id hI
    obtain ⟨g', rfl⟩ : ∃ g', g = g' + 1 := ⟨g - 1, by omega⟩
    obtain ⟨vm, cx, hac, hac4, htc, hcb⟩ := hm m (by omega)
    obtain ⟨v0, v2, v3, v6, vc, v8, vf, vs, ⟨tf_, pf, tp⟩, hw, hct, hf, hc, hfs, hcs⟩ := id cx
    rw [F_X3_find_13_s]
    simp only [B_X3_find_13, nm, nmU, vsh, clamp_toInt hxm, vm, Option.getD_some]
    rw [i1 sh hsh.1 hsh.2.1 hsh.2.2, if_neg (by rw [ile, hn, hxm]; omega)]
    have hm1 : (xm + 1).toInt = ((m + 1 : Nat) : Int) := by rw [add1 (b := 6) (by omega) (by omega), hxm]; omega
    have hfo : foM (fun m => svC al ru ct f fs (cm m) (csm m) af (acs m) I0 J R) (r + 1) m o = foM (fun m => svC al ru ct f fs (cm m) (csm m) af (acs m) I0 J R) r (m + 1) (stM o m (svC al ru ct f fs (cm m) (csm m) af (acs m) I0 J R)) := rfl
    rw [hfo]
    rcases startE (J := J) v0 v1 v8 i1 hw hf hc (hhas I _ i1) hcb with ⟨s1, s2⟩ | ⟨s, s1, s2, s3, s4⟩
    · rw [if_pos s2]
      have est : stM o m (svC al ru ct f fs (cm m) (csm m) af (acs m) I0 J R) = o := by unfold svC; rw [s1]; rfl
      rw [est]
      exact ih g' (m + 1) I (xm + 1) o hm1 (by omega) (by omega) hI
    · rw [if_neg (show ¬ F_X3_startOf fi f (cm m) I J R = -1 by rw [ieq, s2, cIm1]; omega)]
      have hbd : (I fi 4).toInt = bo3 268435456 o := by
        rcases i3 with ⟨e1, e2, -⟩ | ⟨z, m1, l, e1, e2, -⟩
        · rw [e1]; exact e2
        · rw [e1]; exact e2
      have hlt : ∀ q, o = some q → q.1 < 1000000 := fun q hq => by
        rcases i3 with ⟨e1, -⟩ | ⟨z, m1, l, e1, -, e3, -⟩
        · rw [e1] at hq; cases hq
        · rw [e1] at hq; cases hq; exact e3
      obtain ⟨rb, I1, a1, a2⟩ := asg_0 cx haf haf4 hac hac4 htc I 0 0 (F_X3_startOf fi f (cm m) I J R) 0 s (bo3 268435456 o) [] i1 (by decide) (by decide) (Nat.pow_pos (by decide)) s2 s3 (by omega) hbd rfl (fun j hj => by omega) (by omega)
      rw [Nat.sub_zero] at a2
      have ht : ∀ d i, tcC ru fs (csm m) I0 J R d i ≤ 300 := fun d i => by
        by_cases h : d < 4 ∧ i < 4
        · exact (htc d i h.1 h.2).2
        · unfold tcC; rw [if_neg h]; decide
      have est : stM o m (svC al ru ct f fs (cm m) (csm m) af (acs m) I0 J R) = (match tf af (tcC ru fs (csm m) I0 J R) (hcC ct (csm m) I0) (acs m) 0 0 s [] (bo3 268435456 o) with
          | some q => some (q.1, m, q.2)
          | none => o) := by
        unfold svC
        rw [s1]
        exact (stC_eq ht s4 hac4 hlt).symm
      rw [est, a1]
      dsimp only
      have ht2 := tf_bo (af := af) (hc := hcC ct (csm m) I0) ht (acs m) 0 0 s []
      obtain ⟨b1, b2, b3, b4⟩ := a2
      rcases b4 with ⟨c1, c2, c3, c4⟩ | ⟨q, c1, c2, c3, c4⟩
      · rw [if_pos c2, c1]
        refine ih g' (m + 1) I1 (xm + 1) o hm1 (by omega) (by omega) ⟨b1, fun k k1 k2 => by rw [b2 k k1]; exact i2 k k1 k2, ?_⟩
        rw [c3, c4, b2 5 (by decide)]
        exact i3
      · rw [if_neg (show ¬ rb = 0 by rw [c2]; decide), c1]
        have hq := (ht2 _ _ c1).2
        refine ih g' (m + 1) (u2 I1 fi 5 xm) (xm + 1) (some (q.1, m, q.2)) hm1 (by omega) (by omega) ⟨fun z z1 z2 z3 => by rw [u2_ne z1]; exact b1 z z1 z2 z3, fun k k1 k2 => by rw [u2_nk k2, b2 k k1]; exact i2 k k1 k2, Or.inr ⟨q.1, m, q.2, rfl, ?_, by omega, ?_, fun j hj => ?_⟩⟩
        · rw [u2_nk (by decide)]; exact c3
        · rw [u2_at]; exact hxm
        · rw [u2_ne pf]; exact c4 j hj
theorem findE (v1 : R fi 1 = some al) (vsh : R sh 0 = some ma) (hsh : sh ≠ fi ∧ sh ≠ t ∧ sh ≠ p) (hn : (I0 sh 1).toInt = n) (hn6 : n ≤ 6) (haf : (I0 f 2).toInt = af) (haf4 : af ≤ 4)
    (hm : ∀ m, m < 6 → R ma m = some (cm m) ∧ Fcx R fi ru w t p co ct f (cm m) fs (csm m) ∧ (I0 (cm m) 2).toInt = acs m ∧ acs m ≤ 4 ∧ (∀ d i, d < 4 → i < 4 → -1 ≤ tcC ru fs (csm m) I0 J R d i ∧ tcC ru fs (csm m) I0 J R d i ≤ 300) ∧ (-1 ≤ (F_X6_costBetween ru (I0 (cm m) 1) (I0 f 1) I0 J R).toInt ∧ (F_X6_costBetween ru (I0 (cm m) 1) (I0 f 1) I0 J R).toInt ≤ 300))
    (hhas : ∀ (I : hI) (y : Int32), Nea fi t p I0 I → F_X0_has al (I0 f 0) y I J R = F_X0_has al (I0 f 0) y I0 J R) {I : hI} (hI : Nea fi t p I0 I) (hk : ∀ k, k ≠ 4 → k ≠ 5 → I fi k = I0 fi k) :
    ∃ I1, F_X3_find fi f sh I J R = (if (foM (fun m => svC al ru ct f fs (cm m) (csm m) af (acs m) I0 J R) n 0 none).isSome = true then 1 else 0, (I1, J, R)) ∧ Cf fi t p acs I0 I1 (foM (fun m => svC al ru ct f fs (cm m) (csm m) af (acs m) I0 J R) n 0 none) :=
  find_l v1 vsh hsh hn hn6 haf haf4 hm hhas n 7 0 (u2 (u2 I fi 4 268435456) fi 5 (-1)) 0 none (by decide) (by omega) (by omega) ⟨fun z z1 z2 z3 => by rw [u2_ne z1, u2_ne z1]; exact hI z z1 z2 z3, fun k k1 k2 => by rw [u2_nk k2, u2_nk k1]; exact hk k k1 k2, Or.inl ⟨rfl, by rw [u2_nk (by decide), u2_at]; decide, by rw [u2_at]⟩⟩
end FC
