/-! the class finds the way -/
section WAYF
variable {L : List Nat} {C : Nat → Nat} {x mo : Nat} {I : hI} {J : hJ} {R : hR}
theorem okW {ww : Nat} {g : Nat → Int32} (oI : OkI L C I) (kww : C ww = 45) : OkI L C (fun z => if z = ww then g else I z) := fun a ha k hk => by
  by_cases e : a = ww
  · subst e
    rw [kww] at hk ⊢
    dsimp only
    rw [if_pos rfl]
    have h1 := Rg_any (g k)
    exact ⟨h1.1, h1.2, fun q => Bool.noConfusion q⟩
  · dsimp only
    rw [if_neg e]
    exact oI a ha k hk
/-- costs while the weights are written -/
theorem costW (uq : Uq L C) (mx : x ∈ L) (kx : C x = 10) (mm : mo ∈ L) (km : C mo = 11) (oI : OkI L C I) (oR : OkR L C R) (rel : RF L C x mo (I, J, R)) {fi t p sh ru w al pa co ct ww : Nat} (cl : ClF L C x R fi t p sh ru w al pa co ct) (kww : C ww = 45) {q : Nat} (hq : q < 100) {Ia : hI} (hF : FrW fi t p ww I Ia) :
    ∃ Ic, F_X3_costOfAll fi ((R sh (10 + q % 10)).getD 0) ((R sh (10 + q / 10)).getD 0) Ia J R = (cP fi sh q (I, J, R), (Ic, J, R)) ∧ (∀ z, z ≠ fi → z ≠ t → z ≠ p → Ic z = Ia z) ∧ ∀ k, k ≠ 4 → k ≠ 5 → Ic fi k = Ia fi k := by
  obtain ⟨b1, vb1, mb1, kb1⟩ := shE oR cl.2.2.2.1.1 cl.2.2.2.1.2.1 (show 10 + q % 10 < 20 by omega)
  obtain ⟨b, vb, mb, kb⟩ := shE oR cl.2.2.2.1.1 cl.2.2.2.1.2.1 (show 10 + q / 10 < 20 by omega)
  obtain ⟨I', hI'⟩ : ∃ I' : hI, I' = fun z => if z = ww then Ia ww else I z := ⟨_, rfl⟩
  have e1 : ∀ z, z ≠ ww → I' z = I z := fun z h => by rw [hI']; exact if_neg h
  have e2 : I' ww = Ia ww := by rw [hI']; exact if_pos rfl
  have er : ∀ z r, C z = r → r ≠ 45 → I' z = I z := fun z r h hr => e1 z (ne_role h kww hr)
  have oI' : OkI L C I' := by rw [hI']; exact okW oI kww
  have sm : Sm C [2880] (I, J, R) (I', J, R) := fun a k h => by
    refine ⟨?_, rfl, rfl⟩
    show I' a k = I a k
    rw [e1 a (fun e => h (by rw [e, kww]; exact List.mem_singleton.mpr rfl))]
  have rel' : RF L C x mo (I', J, R) := RF.sm rel oR sm (by decide)
  have ms : ∀ z s, s < 20 → R sh s = some z → MSame I I' R R z := fun z s hs vz => MSame.oth' oR cl.2.2.2.1.1 cl.2.2.2.1.2.1 hs vz (fun c r h hr => er c r h hr)
  have k0 := cl.1.2.1
  have k3 := cl.2.1.2.1
  have k6 := cl.2.2.1.2.1
  have hF' : FrC fi t p I' Ia := ⟨fun z z1 z2 z3 => by
    by_cases e : z = ww
    · rw [e, e2]
    · rw [e1 z e]; exact hF.1 z z1 z2 z3 e, fun k k1 k2 => by rw [e1 fi (ne_role k0 kww (by decide))]; exact hF.2 k k1 k2⟩
  obtain ⟨ra, Ic, Ic', c1, c2, -, c4⟩ := costE uq mx kx mm km oI oR rel oI' oR rel' cl cl (er w 38 cl.2.2.2.2.2.1.2.1 (by decide)) (congrFun (er al 0 cl.2.2.2.2.2.2.1.2.1 (by decide)) 1) (er pa 40 cl.2.2.2.2.2.2.2.1.2.1 (by decide)) (er ct 41 cl.2.2.2.2.2.2.2.2.2.2.1 (by decide)) (show 10 + q % 10 < 20 by omega) (show 10 + q / 10 < 20 by omega) vb1 vb vb1 vb (ms b1 _ (by omega) vb1) (ms b _ (by omega) vb) FrC.rf hF'
  have ec : cP fi sh q (I, J, R) = ra := by
    show (F_X3_costOfAll fi ((R sh (10 + q % 10)).getD 0) ((R sh (10 + q / 10)).getD 0) I J R).1 = ra
    rw [vb1, vb]
    simp only [Option.getD_some]
    rw [c1]
  rw [ec, vb1, vb]
  simp only [Option.getD_some]
  refine ⟨Ic', c2, fun z z1 z2 z3 => ?_, fun k k1 k2 => ?_⟩
  · rw [c4.1 z z1 z2 z3]; exact (hF'.1 z z1 z2 z3).symm
  · rw [c4.2 k k1 k2]; exact (hF'.2 k k1 k2).symm
theorem wayC (uq : Uq L C) (mx : x ∈ L) (kx : C x = 10) (mm : mo ∈ L) (km : C mo = 11) (oI : OkI L C I) (oR : OkR L C R) (rel : RF L C x mo (I, J, R)) (rk : RK L C x mo (I, J, R)) {fi t p sh ru w al pa co ct wy ww lf fc : Nat} (cl : ClF L C x R fi t p sh ru w al pa co ct) (a5 : At L C R x 5 wy 9) (aw : At L C R wy 2 ww 45) (alf : At L C R wy 3 lf 46) (afc : At L C R wy 6 fc 47) (hcc : CcR (fun q => cP fi sh q (I, J, R))) {x1 x2 : Int32} {a b : Nat} (ha : x1.toInt = a) (hb : x2.toInt = b) (ba : a < 10) (bb : b < 10) :
    ∃ r I1, F_X9_find wy x1 x2 I J R = (r, (I1, J, R)) ∧ ((∀ z, z ≠ fi → z ≠ t → z ≠ p → z ≠ ww → z ≠ wy → z ≠ lf → z ≠ fc → I1 z = I z) ∧ (∀ k, k ≠ 4 → k ≠ 5 → I1 fi k = I fi k)) ∧ (∀ q, q < 100 → I1 ww q = encW (cP fi sh q (I, J, R)) q) ∧ BI (gW I1 ww) b (dW I1 lf) ∧ FP (gW I1 ww) (dW I1 lf) ∧
      ((r = 0 ∧ ¬ dW I1 lf a < 268435456) ∨ (r = 1 ∧ dW I1 lf a < 268435456 ∧ (I1 wy 4).toInt = dW I1 lf a / 16 ∧ (I1 wy 5).toInt = ((gry wdst (fun v => 10 * v + nx (gW I1 ww) (dW I1 lf) v 0 10) b 10 a).length : Int) + 1 ∧ (I1 fc 0).toInt = a ∧ ∀ j e, (gry wdst (fun v => 10 * v + nx (gW I1 ww) (dW I1 lf) v 0 10) b 10 a)[j]? = some e → (I1 fc (1 + j)).toInt = wdst e)) := by
  have k0 := cl.1.2.1
  have k3 := cl.2.1.2.1
  have k6 := cl.2.2.1.2.1
  have kw := aw.2.1
  have kl := alf.2.1
  have kf := afc.2.1
  have ky := a5.2.1
  obtain ⟨fi', mfi', v0, kfi'⟩ := rf_9_0 oR a5.1 ky
  obtain rfl : fi' = fi := uq _ mfi' _ cl.1.1 (kfi'.trans k0.symm) (by rw [kfi']; rfl)
  obtain ⟨sh', msh', v1, ksh'⟩ := rf_9_1 oR a5.1 ky
  obtain rfl : sh' = sh := uq _ msh' _ cl.2.2.2.1.1 (ksh'.trans cl.2.2.2.1.2.1.symm) (by rw [ksh']; rfl)
  obtain ⟨Iw, w1, w2, w3⟩ := weigh_l (t := t) (p := p) (cc := fun q => cP fi' sh' q (I, J, R)) v0 v1 aw.2.2 (ne_role kw k0 (by decide)) (ne_role kw k3 (by decide)) (ne_role kw k6 (by decide)) hcc (fun q hq => rk fi' sh' wy ww cl.1.2.2 cl.2.2.2.1.2.2 a5.2.2 aw.2.2 q hq) (fun q hq Ia hF => costW uq mx kx mm km oI oR rel cl kw hq hF) 101 0 0 I (by decide) (by omega) (by omega) ⟨fun _ _ _ _ _ => rfl, fun _ _ _ => rfl⟩ (fun q hq => by omega) (fun _ _ => rfl)
  have hg : Wg (gW Iw ww) := fun v u hv hu => by
    have e1 := encG hcc (show v * 10 + u < 100 by omega)
    unfold gW
    rw [w3 _ (by omega)]
    try dsimp only at e1
    try dsimp only
    rw [e1]
    have h9 := hcc (v * 10 + u) (by omega)
    try dsimp only at h9
    split
    · omega
    · split
      · omega
      · rename_i z
        have := h9.resolve_left z
        omega
  have nlw : ww ≠ lf := ne_role kw kl (by decide)
  obtain ⟨I2, m1, m2, m3, m4⟩ := wmeasE (J := J) aw.2.2 alf.2.2 nlw hb bb hg
  have w1 : F_X9_weigh wy I J R = (Iw, J, R) := w1
  simp only [F_X9_find, nm, nmW, w1, m1, alf.2.2, Option.getD_some, clamp_toInt ha]
  have nly : lf ≠ wy := ne_role kl ky (by decide)
  have nwy : ww ≠ wy := ne_role kw ky (by decide)
  have nfy : fc ≠ wy := ne_role kf ky (by decide)
  have nlf : lf ≠ fc := ne_role kl kf (by decide)
  have nwf : ww ≠ fc := ne_role kw kf (by decide)
  have cF : Int32.toInt 268435456 = 268435456 := by decide
  have eg2 : gW I2 ww = gW Iw ww := by unfold gW; rw [m2 ww nlw]
  rw [u2_ne nly]
  have fr2 : ∀ z, z ≠ fi' → z ≠ t → z ≠ p → z ≠ ww → z ≠ wy → z ≠ lf → I2 z = I z := fun z z1 z2 z3 z4 z5 z6 => by rw [m2 z z6]; exact w2.1 z z1 z2 z3 z4
  have fr3 : ∀ k, k ≠ 4 → k ≠ 5 → I2 fi' k = I fi' k := fun k k1 k2 => by rw [m2 fi' (ne_role k0 kl (by decide))]; exact w2.2 k k1 k2
  have nfiy : fi' ≠ wy := ne_role k0 ky (by decide)
  by_cases hlt : I2 lf a < 268435456
  · rw [if_pos hlt]
    have hlt1 := Rg_lt hlt
    rw [cF] at hlt1
    have hlt1 : dW I2 lf a < 268435456 := hlt1
    obtain ⟨I3, hI3⟩ : ∃ I3, I3 = u2 (u2 I2 wy 5 0) wy 4 (I2 lf a / 16) := ⟨_, rfl⟩
    rw [← hI3, show ((10 - Int32.toInt 0).toNat + 1) = 11 by decide]
    have g3 : gW I3 ww = gW Iw ww := by rw [← eg2]; unfold gW; rw [hI3, u2_ne nwy, u2_ne nwy]
    have d3 : dW I3 lf = dW I2 lf := by unfold dW; rw [hI3, u2_ne nly, u2_ne nly]
    have hrk := rk_lt_n (d := dW I2 lf) (x := dW I2 lf a) (u := a) (Int.le_refl _) 10 ba
    have c0 : Int32.toInt 0 = ((0 : Nat) : Int) := by decide
    obtain ⟨I1, c1, c2, c3, c4, c5, c6, c7⟩ := wfind_l (J := J) (x1 := x1) (y := I2 lf a) (bb := lf) aw.2.2 alf.2.2 afc.2.2 nwf nlf nwy nly nfy hb (I0 := I3) (by rw [g3]; exact hg) (by rw [g3, d3]; exact m3) (by rw [g3, d3]; exact m4) 11 10 a 0 x1 0 I3 ha c0 ba (by rw [d3]; exact hlt1) (by rw [d3]; omega) (by rw [d3]; omega) (by omega) (by rw [hI3, u2_nk (by decide), u2_at]; decide) rfl rfl
    have e1w : I1 ww = I3 ww := c4 ww nwy nwf
    have e1l : I1 lf = I3 lf := c4 lf nly nlf
    have g1 : gW I1 ww = gW I3 ww := by unfold gW; rw [e1w]
    have d1 : dW I1 lf = dW I3 lf := by unfold dW; rw [e1l]
    refine ⟨1, I1, c1, ⟨fun z z1 z2 z3 z4 z5 z6 z7 => ?_, fun k k1 k2 => ?_⟩, fun q hq => ?_, by rw [g1, d1, g3, d3]; exact m3, by rw [g1, d1, g3, d3]; exact m4, Or.inr ⟨rfl, by rw [d1, d3]; exact hlt1, ?_, ?_, c6, ?_⟩⟩
    · rw [c4 z z5 z7, hI3, u2_ne z5, u2_ne z5]; exact fr2 z z1 z2 z3 z4 z5 z6
    · rw [c4 fi' nfiy (ne_role k0 kf (by decide)), hI3, u2_ne nfiy, u2_ne nfiy]; exact fr3 k k1 k2
    · rw [e1w, hI3, u2_ne nwy, u2_ne nwy, m2 ww nlw]; exact w3 q hq
    · rw [c3 4 (by decide), hI3, u2_at, d1, d3]
      have h0 : 0 ≤ (I2 lf a).toInt := (m3.2.1 a ba).1
      have h1 := idiv (x := I2 lf a) (y := 16) (nat_of h0).symm (show Int32.toInt 16 = ((16 : Nat) : Int) by decide) (by omega)
      have h2 := nat_of h0
      rw [h1]
      show (((I2 lf a).toNatClampNeg / 16 : Nat) : Int) = (I2 lf a).toInt / 16
      omega
    · rw [c2, g1, d1]
      omega
    · rw [g1, d1]
      intro j e h
      have := c7 j e h
      rw [Nat.zero_add] at this
      exact this
  · rw [if_neg hlt]
    have hlt1 := Rg_nlt hlt
    rw [cF] at hlt1
    have hlt1 : ¬ dW I2 lf a < 268435456 := by unfold dW; omega
    have g1 : gW (u2 I2 wy 5 0) ww = gW Iw ww := by rw [← eg2]; unfold gW; rw [u2_ne nwy]
    have d1 : dW (u2 I2 wy 5 0) lf = dW I2 lf := by unfold dW; rw [u2_ne nly]
    refine ⟨0, u2 I2 wy 5 0, rfl, ⟨fun z z1 z2 z3 z4 z5 z6 z7 => by rw [u2_ne z5]; exact fr2 z z1 z2 z3 z4 z5 z6, fun k k1 k2 => by rw [u2_ne nfiy]; exact fr3 k k1 k2⟩, fun q hq => by rw [u2_ne nwy, m2 ww nlw]; exact w3 q hq, by rw [g1, d1]; exact m3, by rw [g1, d1]; exact m4, Or.inl ⟨rfl, by rw [d1]; exact hlt1⟩⟩
end WAYF
/-- the model finds the way -/
theorem wayM {mo sc sF st tw pl bp fp a b : Nat} {K : hI} {J : hJ} {R : hR} {cc : Nat → Int32} {x1 x2 : Int32} (hcc : CcR cc) (v44 : R mo 44 = some sc) (v45 : R mo 45 = some sF) (v46 : R mo 46 = some st) (v48 : R mo 48 = some tw) (n1 : st ≠ sc) (n2 : st ≠ sF) (nn : sc ≠ sF) (n3 : tw ≠ mo) (n4 : tw ≠ sc) (n5 : tw ≠ sF) (n6 : mo ≠ sc) (n7 : mo ≠ sF) (n8 : st ≠ mo) (n9 : st ≠ pl) (n10 : st ≠ bp) (n11 : st ≠ fp) (n12 : sF ≠ mo ∧ sF ≠ pl ∧ sF ≠ bp ∧ sF ≠ fp ∧ sF ≠ st) (ha : x1.toInt = a) (hb : x2.toInt = b) (ba : a < 10) (bb : b < 10) (hdg : ∀ q, q < 1000 → 0 ≤ (K sF q).toInt ∧ (K sF q).toInt ≤ 9)
    (hfit : ∀ (a b : Nat) (xa xb : Int32), xa.toInt = a → xb.toInt = b → a < 10 → b < 10 → ∀ Ka, FrS mo pl bp fp st K Ka → ∃ rb Im, F_X11_fitsAt mo xb (10 + xa) Ka J R = (rb, (Im, J, R)) ∧ FrM mo pl bp fp Ka Im ∧ ((cc (10 * a + b) = rb ∧ 0 ≤ rb.toInt ∧ rb.toInt ≤ 9132) ∨ (cc (10 * a + b) = -6 ∧ 1000000 ≤ rb.toInt))) :
    ∃ K0 Ib n0 I1, F_X11_findWay mo x1 x2 K J R = (Ib sc (10 * n0 + b), (I1, J, R)) ∧ (∀ e, e < 100 → (K0 st e).toInt = stv (cc e)) ∧ Mok 10 9 100 1000000 wsrc wdst (wcs K0 st) (wpr K0 st) a (Lw Ib sc) (RwW Ib sF) ∧ n0 < 10 ∧ (∀ k, k < 10 → Lw Ib sc n0 b ≤ Lw Ib sc k b) ∧ (∀ k, k < n0 → Lw Ib sc n0 b < Lw Ib sc k b) ∧ (I1 mo 47).toInt = ((n0 + 1 : Nat) : Int) ∧ (∀ k, k < n0 + 1 → I1 tw k = Ib sF (10 * (10 * n0 + b) + k)) ∧ (Lw Ib sc n0 b < 1000000 → fcN Ib sF n0 b 0 = a) ∧ (∀ q, q < 1000 → 0 ≤ (Ib sF q).toInt ∧ (Ib sF q).toInt ≤ 9) ∧ (∀ z, z ≠ mo → z ≠ pl → z ≠ bp → z ≠ fp → z ≠ st → z ≠ sc → z ≠ sF → z ≠ tw → I1 z = K z) ∧ (∀ k, k ≠ 40 → k ≠ 41 → k ≠ 42 → k ≠ 47 → I1 mo k = K mo k) := by
  obtain ⟨K0, a1, a2, a3⟩ := step_a (x1 := x1) (x2 := x2) v46 n8 n9 n10 n11 hfit 11 0 0 K (by decide) (by omega) (by omega) ⟨fun _ _ _ _ _ _ => rfl, fun _ _ _ _ => rfl⟩ (fun e he => by omega)
  have hst : ∀ e, e < 100 → (0 ≤ wcs K0 st e ∧ wcs K0 st e ≤ 9132) ∨ wcs K0 st e = 1000000 := fun e he => by
    have h9 := a3 e he
    unfold wcs
    rw [h9]
    unfold stv
    rcases hcc e he with h | h
    · rw [if_pos h]; exact Or.inr rfl
    · by_cases q : cc e = -6
      · rw [if_pos q]; exact Or.inr rfl
      · rw [if_neg q]; exact Or.inl h
  obtain ⟨I2, b1, b2, b3, b4, b5⟩ := winit_l (mo := mo) (J := J) (R := R) (x1 := x1) (x2 := x2) (I0 := K0) v44 v45 nn ha ba 101 0 0 K0 (by decide) (by omega) (by omega) (fun _ _ => rfl) (fun q hq => by omega)
  have hF0 : K0 sF = K sF := a2.1 sF n12.1 n12.2.1 n12.2.2.1 n12.2.2.2.1 n12.2.2.2.2
  have S0 : ∀ n, n ≤ 9 → ∀ v, v < 10 → Lw I2 sc n v = if 10 * n + v = a then 0 else 1000000 := fun n hn v hv => b3 _ (by omega)
  have hdg2 : ∀ q, q < 1000 → 0 ≤ (I2 sF q).toInt ∧ (I2 sF q).toInt ≤ 9 := fun q hq => by
    by_cases e : q = 10 * a
    · rw [e, b5]; omega
    · rw [b4 q e, hF0]; exact hdg q hq
  have hW : WMm K0 I2 sc sF st 0 a := by
    refine ⟨b2, hdg2, fun n hn v hv => ?_, fun n h1 h2 v hv => ?_, fun n hn v hv hl => ?_, ?_⟩
    · rw [S0 n (by omega) v hv]
      split
      · exact Or.inr ⟨by omega, by omega⟩
      · exact Or.inl rfl
    · rw [S0 n h2 v hv, if_neg (by omega)]
    · obtain rfl : n = 0 := by omega
      rw [S0 0 (by omega) v hv] at hl
      have hva : v = a := by
        by_cases e : 10 * 0 + v = a
        · omega
        · rw [if_neg e] at hl; omega
      have e5 : fcN I2 sF 0 v 0 = a := by
        unfold fcN
        rw [show 10 * (10 * 0 + v) + 0 = 10 * a by omega]
        exact clamp_toInt b5
      exact ⟨e5, by rw [e5, hva]⟩
    · intro n hn v hv
      obtain rfl : n = 0 := by omega
      rw [S0 0 (by omega) v hv]
      by_cases e : 10 * 0 + v = a
      · rw [if_pos e]
        refine ⟨⟨by omega, fun _ => ⟨by show a = v; omega, rfl, rfl⟩⟩, fun l hw hl => ?_⟩
        obtain rfl : l = [] := List.length_eq_zero_iff.mp hl
        exact ⟨by simp [wc], fun _ _ => Nat.le_refl _⟩
      · rw [if_neg e]
        refine ⟨⟨by omega, fun h => by omega⟩, fun l hw hl => ?_⟩
        obtain rfl : l = [] := List.length_eq_zero_iff.mp hl
        exact absurd (show a = v from hw) (by omega)
  obtain ⟨Ib, c1, c2⟩ := wlev_l (J := J) (x1 := x1) (x2 := x2) v44 v45 v46 n1 n2 nn hst 10 0 1 I2 (by decide) (by omega) (by omega) hW
  obtain ⟨e1, e2, e3, e4, e5, e6⟩ := c2
  obtain ⟨I1, n0, d1, d2, d3, d4, d5, d6, d7, d8⟩ := wbest_l (J := J) (x1 := x1) (I := Ib) v44 v45 v48 n3 n4 n5 n6 n7 hb bb 10 0 1 0 1 (by decide) (by decide) (by omega) (by omega) (by omega) (fun k hk => by rw [show k = 0 by omega]; exact Int.le_refl _) (fun k hk => by omega)
  refine ⟨K0, Ib, n0, I1, ?_, a3, e6, d2, d3, d4, d7, d8, fun h => (e5 n0 (by omega) b bb h).1, e2, fun z z1 z2 z3 z4 z5 z6 z7 z8 => by rw [d5 z z8 z1, e1 z z6 z7]; exact a2.1 z z1 z2 z3 z4 z5, fun k k1 k2 k3 k4 => by rw [d6 k k4, e1 mo n6 n7]; exact a2.2 k k1 k2 k3⟩
  rw [← d1, ← c1, ← b1, ← a1]
  rfl
