theorem st_ask {L : List Nat} {C : Nat → Nat} {x mo : Nat} {I I1 I2 : hI} {J J1 J2 : hJ} {R R1 R2 : hR} (uq : Uq L C) (mx : x ∈ L) (kx : C x = 10) (mm : mo ∈ L) (km : C mo = 11) (oI : OkI L C I) (oR : OkR L C R) (ow0 : Ow L C R) (rel : RS L C x mo (I, J, R)) {x1 : Int32} {x2 : Int32} {x3 : Int32} {ra rb : Int32} (fa : F_X10_ask x x1 x2 x3 I J R = (ra, (I1, J1, R1))) (sa : Sm C ms_X10_ask (I, J, R) (I1, J1, R1)) (oI1 : OkI L C I1) (oR1 : OkR L C R1) (fb : F_X11_ask mo x1 x2 x3 I1 J1 R1 = (rb, (I2, J2, R2))) (sb : Sm C ms_X11_ask (I1, J1, R1) (I2, J2, R2)) (oI2 : OkI L C I2) (oR2 : OkR L C R2) : RS L C x mo (I2, J2, R2) ∧ ra = rb := by
  obtain ⟨sh, msh, vsh, ksh⟩ := rf_10_4 oR mx kx
  obtain ⟨mm8, mmm, vmm, kmm⟩ := rf_11_8 oR mm km
  by_cases h1 : 0 ≤ x1.toInt ∧ x1.toInt ≤ 9
  · have hlt : 10 + x1.toNatClampNeg < 20 := by have := nine h1; omega
    obtain ⟨b, mb, vb0, kb⟩ := rr_57 (i := (10 + x1)) oR msh ksh (vp_in_iff.mpr ⟨by rw [ten h1]; omega, by rw [ten h1]; omega⟩)
    have vb : R sh (10 + x1.toNatClampNeg) = some b := by rw [← vb0, tenN h1]
    have rb0 : I b 1 = I mm8 (10 + x1.toNatClampNeg) := rel sh msh ksh mm8 mmm kmm _ hlt b vb
    obtain ⟨A1, A2, A3⟩ := ask10 (x2 := x2) (x3 := x3) (J := J) oI oR mx kx msh ksh vsh (fun _ => vb)
    have oI1' : OkI L C (u2 I1 mo 0 0) := wf_11_0 oI1 km (Rg_any _)
    simp only [F_X11_ask, nm, nmU, inM, ite1, Int32.toInt_toInt64, cJ0, cJ9] at fb
    rw [if_pos h1] at fb
    have hsI : 0 ≤ Int32.toInt (10 + x1) ∧ Int32.toInt (10 + x1) ≤ 19 := by rw [ten h1]; omega
    have e9 : ((10 + x1) : Int32).toNatClampNeg = 10 + x1.toNatClampNeg := by exact tenN h1
    by_cases ok : askOk x1 x2 x3
    · by_cases h6 : (I b 1).toInt < 6
      · obtain ⟨K1, e1, e2, e3, e4⟩ := A3 ok h6
        rw [e1] at fa
        (obtain ⟨qa1, qa2, qa3, qa4⟩ := pairE fa; subst qa1 qa2 qa3 qa4)
        obtain ⟨-, -, B3⟩ := madd (x2 := x2) (x3 := x3) (I := u2 K1 mo 0 0) (J := J) (s := (10 + x1)) oI1' oR mm km mmm kmm vmm hsI
        have q0 : u2 K1 mo 0 0 mm8 = I mm8 := by rw [u2_ne (ne_role kmm km (by decide)), e4 mm8 kmm]
        rw [q0, e9, ← rb0] at B3
        obtain ⟨K2, g1, g2⟩ := B3 ok.2 h6
        rw [g1] at fb
        (obtain ⟨qa1, qa2, qa3, qa4⟩ := pairE fb; subst qa1 qa2 qa3 qa4)
        exact ⟨RS.grow uq ow0 oR rel msh ksh mmm kmm hlt vb e2 e3 (e4 mm8 kmm) (fun c hc => (sb c 1 (by rw [hc]; decide)).1) (by show K2 mm8 = _; rw [g2, e4 mm8 kmm]), rfl⟩
      · have e1 := A2 ok h6
        rw [e1] at fa
        (obtain ⟨qa1, qa2, qa3, qa4⟩ := pairE fa; subst qa1 qa2 qa3 qa4)
        obtain ⟨-, B2, -⟩ := madd (x2 := x2) (x3 := x3) (I := u2 I mo 0 0) (J := J) (s := (10 + x1)) oI1' oR mm km mmm kmm vmm hsI
        have q0 : u2 I mo 0 0 mm8 = I mm8 := u2_ne (ne_role kmm km (by decide))
        rw [q0, e9, ← rb0] at B2
        rw [B2 ok.2 h6] at fb
        (obtain ⟨qa1, qa2, qa3, qa4⟩ := pairE fb; subst qa1 qa2 qa3 qa4)
        exact ⟨RS.sm (ms := [11 * 64]) rel oR (Sm.stI Sm.rf km (by decide)) rfl, rfl⟩
    · have e1 := A1 ok
      rw [e1] at fa
      (obtain ⟨qa1, qa2, qa3, qa4⟩ := pairE fa; subst qa1 qa2 qa3 qa4)
      obtain ⟨B1, -, -⟩ := madd (x2 := x2) (x3 := x3) (I := u2 I mo 0 0) (J := J) (s := (10 + x1)) oI1' oR mm km mmm kmm vmm hsI
      rw [B1 (fun h => ok ⟨h1, h⟩)] at fb
      (obtain ⟨qa1, qa2, qa3, qa4⟩ := pairE fb; subst qa1 qa2 qa3 qa4)
      exact ⟨RS.sm (ms := [11 * 64]) rel oR (Sm.stI Sm.rf km (by decide)) rfl, rfl⟩
  · have e1 : F_X10_ask x x1 x2 x3 I J R = (-3, (I, J, R)) := by
      simp only [F_X10_ask, nm, isW, ite1, cI0, cI9]
      rw [if_neg h1]
    rw [e1] at fa
    (obtain ⟨qa1, qa2, qa3, qa4⟩ := pairE fa; subst qa1 qa2 qa3 qa4)
    simp only [F_X11_ask, nm, nmU, inM, ite1, Int32.toInt_toInt64, cJ0, cJ9] at fb
    rw [if_neg h1] at fb
    (obtain ⟨qa1, qa2, qa3, qa4⟩ := pairE fb; subst qa1 qa2 qa3 qa4)
    exact ⟨RS.sm (ms := [11 * 64]) rel oR (Sm.stI Sm.rf km (by decide)) rfl, rfl⟩
theorem st_offer {L : List Nat} {C : Nat → Nat} {x mo : Nat} {I I1 I2 : hI} {J J1 J2 : hJ} {R R1 R2 : hR} (uq : Uq L C) (mx : x ∈ L) (kx : C x = 10) (mm : mo ∈ L) (km : C mo = 11) (oI : OkI L C I) (oR : OkR L C R) (ow0 : Ow L C R) (rel : RS L C x mo (I, J, R)) {x1 : Int32} {x2 : Int32} {x3 : Int32} {ra rb : Int32} (fa : F_X10_offer x x1 x2 x3 I J R = (ra, (I1, J1, R1))) (sa : Sm C ms_X10_offer (I, J, R) (I1, J1, R1)) (oI1 : OkI L C I1) (oR1 : OkR L C R1) (fb : F_X11_offer mo x1 x2 x3 I1 J1 R1 = (rb, (I2, J2, R2))) (sb : Sm C ms_X11_offer (I1, J1, R1) (I2, J2, R2)) (oI2 : OkI L C I2) (oR2 : OkR L C R2) : RS L C x mo (I2, J2, R2) ∧ ra = rb := by
  obtain ⟨sh, msh, vsh, ksh⟩ := rf_10_4 oR mx kx
  obtain ⟨mm8, mmm, vmm, kmm⟩ := rf_11_8 oR mm km
  by_cases h1 : 0 ≤ x1.toInt ∧ x1.toInt ≤ 9
  · have hlt : x1.toNatClampNeg < 20 := by have := nine h1; omega
    obtain ⟨b, mb, vb0, kb⟩ := rr_57 (i := x1) oR msh ksh (vp_in_iff.mpr ⟨by omega, by omega⟩)
    have vb : R sh (x1.toNatClampNeg) = some b := by rw [← vb0]
    have rb0 : I b 1 = I mm8 (x1.toNatClampNeg) := rel sh msh ksh mm8 mmm kmm _ hlt b vb
    obtain ⟨A1, A2, A3⟩ := offer10 (x2 := x2) (x3 := x3) (J := J) oI oR msh ksh vsh (fun _ => vb)
    have oI1' : OkI L C (u2 I1 mo 0 0) := wf_11_0 oI1 km (Rg_any _)
    simp only [F_X11_offer, nm, nmU, inM, ite1, Int32.toInt_toInt64, cJ0, cJ9] at fb
    rw [if_pos h1] at fb
    have hsI : 0 ≤ Int32.toInt x1 ∧ Int32.toInt x1 ≤ 19 := by omega
    have e9 : (x1 : Int32).toNatClampNeg = x1.toNatClampNeg := by rfl
    by_cases ok : askOk x1 x2 x3
    · by_cases h6 : (I b 1).toInt < 6
      · obtain ⟨K1, e1, e2, e3, e4⟩ := A3 ok h6
        rw [e1] at fa
        (obtain ⟨qa1, qa2, qa3, qa4⟩ := pairE fa; subst qa1 qa2 qa3 qa4)
        obtain ⟨-, -, B3⟩ := madd (x2 := x2) (x3 := x3) (I := u2 K1 mo 0 0) (J := J) (s := x1) oI1' oR mm km mmm kmm vmm hsI
        have q0 : u2 K1 mo 0 0 mm8 = I mm8 := by rw [u2_ne (ne_role kmm km (by decide)), e4 mm8 kmm]
        rw [q0, e9, ← rb0] at B3
        obtain ⟨K2, g1, g2⟩ := B3 ok.2 h6
        rw [g1] at fb
        (obtain ⟨qa1, qa2, qa3, qa4⟩ := pairE fb; subst qa1 qa2 qa3 qa4)
        exact ⟨RS.grow uq ow0 oR rel msh ksh mmm kmm hlt vb e2 e3 (e4 mm8 kmm) (fun c hc => (sb c 1 (by rw [hc]; decide)).1) (by show K2 mm8 = _; rw [g2, e4 mm8 kmm]), rfl⟩
      · have e1 := A2 ok h6
        rw [e1] at fa
        (obtain ⟨qa1, qa2, qa3, qa4⟩ := pairE fa; subst qa1 qa2 qa3 qa4)
        obtain ⟨-, B2, -⟩ := madd (x2 := x2) (x3 := x3) (I := u2 I mo 0 0) (J := J) (s := x1) oI1' oR mm km mmm kmm vmm hsI
        have q0 : u2 I mo 0 0 mm8 = I mm8 := u2_ne (ne_role kmm km (by decide))
        rw [q0, e9, ← rb0] at B2
        rw [B2 ok.2 h6] at fb
        (obtain ⟨qa1, qa2, qa3, qa4⟩ := pairE fb; subst qa1 qa2 qa3 qa4)
        exact ⟨RS.sm (ms := [11 * 64]) rel oR (Sm.stI Sm.rf km (by decide)) rfl, rfl⟩
    · have e1 := A1 ok
      rw [e1] at fa
      (obtain ⟨qa1, qa2, qa3, qa4⟩ := pairE fa; subst qa1 qa2 qa3 qa4)
      obtain ⟨B1, -, -⟩ := madd (x2 := x2) (x3 := x3) (I := u2 I mo 0 0) (J := J) (s := x1) oI1' oR mm km mmm kmm vmm hsI
      rw [B1 (fun h => ok ⟨h1, h⟩)] at fb
      (obtain ⟨qa1, qa2, qa3, qa4⟩ := pairE fb; subst qa1 qa2 qa3 qa4)
      exact ⟨RS.sm (ms := [11 * 64]) rel oR (Sm.stI Sm.rf km (by decide)) rfl, rfl⟩
  · have e1 : F_X10_offer x x1 x2 x3 I J R = (-3, (I, J, R)) := by
      simp only [F_X10_offer, nm, isW, ite1, cI0, cI9]
      rw [if_neg h1]
    rw [e1] at fa
    (obtain ⟨qa1, qa2, qa3, qa4⟩ := pairE fa; subst qa1 qa2 qa3 qa4)
    simp only [F_X11_offer, nm, nmU, inM, ite1, Int32.toInt_toInt64, cJ0, cJ9] at fb
    rw [if_neg h1] at fb
    (obtain ⟨qa1, qa2, qa3, qa4⟩ := pairE fb; subst qa1 qa2 qa3 qa4)
    exact ⟨RS.sm (ms := [11 * 64]) rel oR (Sm.stI Sm.rf km (by decide)) rfl, rfl⟩
theorem st_strip {L : List Nat} {C : Nat → Nat} {x mo : Nat} {I I1 I2 : hI} {J J1 J2 : hJ} {R R1 R2 : hR} (uq : Uq L C) (mx : x ∈ L) (kx : C x = 10) (mm : mo ∈ L) (km : C mo = 11) (oI : OkI L C I) (oR : OkR L C R) (ow0 : Ow L C R) (rel : RS L C x mo (I, J, R)) {x1 : Int32} {x2 : Int32} {ra rb : Int32} (fa : F_X10_strip x x1 x2 I J R = (ra, (I1, J1, R1))) (sa : Sm C ms_X10_strip (I, J, R) (I1, J1, R1)) (oI1 : OkI L C I1) (oR1 : OkR L C R1) (fb : F_X11_strip mo x1 x2 I1 J1 R1 = (rb, (I2, J2, R2))) (sb : Sm C ms_X11_strip (I1, J1, R1) (I2, J2, R2)) (oI2 : OkI L C I2) (oR2 : OkR L C R2) : RS L C x mo (I2, J2, R2) ∧ ra = rb := by
  obtain ⟨sh, msh, vsh, ksh⟩ := rf_10_4 oR mx kx
  obtain ⟨mm8, mmm, vmm, kmm⟩ := rf_11_8 oR mm km
  obtain ⟨w, mw, vw, kw⟩ := rf_10_5 oR mx kx
  obtain ⟨ww, mww, vww, kww⟩ := rf_9_2 oR mw kw
  simp only [F_X10_strip, nm, nmW, isW, ite1, cI0, show ((10 : Int32) - 1).toInt = 9 by decide, vsh, vw, Option.getD_some] at fa
  simp only [F_X11_strip, F_X11_strip_32, nm, inM, ite1, Int32.toInt_toInt64, cJ0, cJ9] at fb
  by_cases h1 : 0 ≤ x2.toInt ∧ x2.toInt ≤ 9
  · simp only [if_pos h1] at fa fb
    by_cases h0 : x1 = 0
    · simp only [if_pos h0] at fa fb
      have hlt : x2.toNatClampNeg < 20 := by have := nine h1; omega
      obtain ⟨b, mb, vb, kb⟩ := rr_57 (i := x2) oR msh ksh (vp_in_iff.mpr ⟨by omega, by omega⟩)
      have rb0 : I b 1 = I mm8 x2.toNatClampNeg := rel sh msh ksh mm8 mmm kmm _ hlt b vb
      simp only [vb, Option.getD_some] at fa
      (obtain ⟨qa1, qa2, qa3, qa4⟩ := pairE fa; subst qa1 qa2 qa3 qa4)
      simp only [vmm, Option.getD_some] at fb
      have q0 : u2 (u2 I b 1 0) mo 0 0 mm8 = I mm8 := by rw [u2_ne (ne_role kmm km (by decide)), u2_ne (ne_role kmm kb (by decide))]
      rw [q0] at fb
      (obtain ⟨qa1, qa2, qa3, qa4⟩ := pairE fb; subst qa1 qa2 qa3 qa4)
      refine ⟨RS.grow (I1 := u2 I b 1 0) uq ow0 oR rel msh ksh mmm kmm hlt vb u2_at (fun c _ hc => by rw [u2_ne hc]) (u2_ne (ne_role kmm kb (by decide))) (fun c hc => by rw [u2_ne (ne_role hc kmm (by decide)), u2_ne (ne_role hc km (by decide))]) (by rw [u2_up, q0, u2_ne (ne_role kmm kb (by decide))]), rb0⟩
    · simp only [if_neg h0] at fa fb
      have hlt : 10 + x2.toNatClampNeg < 20 := by have := nine h1; omega
      obtain ⟨b, mb, vb, kb⟩ := rr_57 (i := 10 + x2) oR msh ksh (vp_in_iff.mpr ⟨by rw [ten h1]; omega, by rw [ten h1]; omega⟩)
      rw [tenN h1] at vb fa fb
      have rb0 : I b 1 = I mm8 (10 + x2.toNatClampNeg) := rel sh msh ksh mm8 mmm kmm _ hlt b vb
      obtain ⟨K, f1, f2⟩ := forgetF (x1 := x2) (I := I) (J := J) vww
      have hb : K b = I b := f2 b (ne_role kb kww (by decide))
      have h8 : K mm8 = I mm8 := f2 mm8 (ne_role kmm kww (by decide))
      simp only [f1, vb, Option.getD_some, hb] at fa
      (obtain ⟨qa1, qa2, qa3, qa4⟩ := pairE fa; subst qa1 qa2 qa3 qa4)
      simp only [vmm, Option.getD_some] at fb
      have q0 : u2 (u2 K b 1 0) mo 0 0 mm8 = I mm8 := by rw [u2_ne (ne_role kmm km (by decide)), u2_ne (ne_role kmm kb (by decide)), h8]
      rw [q0] at fb
      (obtain ⟨qa1, qa2, qa3, qa4⟩ := pairE fb; subst qa1 qa2 qa3 qa4)
      refine ⟨RS.grow (I1 := u2 K b 1 0) uq ow0 oR rel msh ksh mmm kmm hlt vb u2_at (fun c kc hc => by rw [u2_ne hc, f2 c (ne_role kc kww (by decide))]) (by rw [u2_ne (ne_role kmm kb (by decide)), h8]) (fun c hc => by rw [u2_ne (ne_role hc kmm (by decide)), u2_ne (ne_role hc km (by decide))]) (by rw [u2_up, q0, u2_ne (ne_role kmm kb (by decide)), h8]), rb0⟩
  · simp only [if_neg h1] at fa fb
    have e : (ra, (I1, J1, R1)) = ((-3 : Int32), (I, J, R)) := by
      by_cases h0 : x1 = 0
      · rw [if_pos h0] at fa; exact fa.symm
      · rw [if_neg h0] at fa; exact fa.symm
    (obtain ⟨qa1, qa2, qa3, qa4⟩ := pairE e.symm; subst qa1 qa2 qa3 qa4)
    (obtain ⟨qa1, qa2, qa3, qa4⟩ := pairE fb; subst qa1 qa2 qa3 qa4)
    exact ⟨RS.sm (ms := [11 * 64]) rel oR (Sm.stI Sm.rf km (by decide)) rfl, rfl⟩
theorem hasC {b : Nat} {x2 : Int32} {I : hI} {J : hJ} {R : hR} (h : 0 ≤ (I b 1).toInt) : F_X7_has b x2 I J R = if 0 ≤ x2.toInt ∧ x2.toInt < (I b 1).toInt then 1 else 0 := by
  simp only [F_X7_has, nm, isW, ite11, cI0]
  rw [sub1 (b := 0) h (by omega)]
  by_cases q : 0 ≤ x2.toInt ∧ x2.toInt < (I b 1).toInt
  · rw [if_pos q, if_pos (by omega)]
  · rw [if_neg q, if_neg (by omega)]
theorem hasM {mo mm8 : Nat} {s x2 : Int32} {I : hI} {J : hJ} {R : hR} (v : R mo 8 = some mm8) (h : 0 ≤ (I mm8 s.toNatClampNeg).toInt) : F_X11_isMember mo s x2 I J R = if 0 ≤ x2.toInt ∧ x2.toInt < (I mm8 s.toNatClampNeg).toInt then 1 else 0 := by
  simp only [F_X11_isMember, nm, inM, ite11, Int32.toInt_toInt64, cJ0, v, Option.getD_some]
  rw [sub1 (b := 0) h (by omega)]
  by_cases q : 0 ≤ x2.toInt ∧ x2.toInt < (I mm8 s.toNatClampNeg).toInt
  · rw [if_pos q, if_pos (by omega)]
  · rw [if_neg q, if_neg (by omega)]
def workR (sz x1 x2 x3 x4 x5 : Int) : Int32 := if (0 ≤ x1 ∧ x1 ≤ 9) ∧ (0 ≤ x3 ∧ x3 ≤ 2) ∧ ((if x3 = 0 then -1 else 0) ≤ x4 ∧ x4 ≤ 2) ∧ (x3 = 0 → -1000 ≤ x5 ∧ x5 ≤ 1000) then (if 0 ≤ x2 ∧ x2 < sz then 0 else -2) else -3
theorem e0 {x : Int32} : (x = 0) = (x.toInt = 0) := propext eq0
theorem em1 {x : Int32} : (x = -1) = (x.toInt = -1) := propext ⟨fun h => by rw [h]; decide, fun h => Int32.toInt_inj.mp (by rw [h]; decide)⟩
set_option maxHeartbeats 4000000 in
theorem work10 {x sh b : Nat} {x1 x2 x3 x4 x5 : Int32} {I : hI} {J : hJ} {R : hR} (vsh : R x 4 = some sh) (vb : R sh x1.toNatClampNeg = some b) (h : 0 ≤ (I b 1).toInt) : (F_X10_work x x1 x2 x3 x4 x5 I J R).1 = workR (I b 1).toInt x1.toInt x2.toInt x3.toInt x4.toInt x5.toInt := by
  simp only [F_X10_work, nm, nmW, isW, ite1, cI0, cI9, cI2, cIm1000, cI1000, vsh, vb, Option.getD_some, hasC h, e0, em1, apply_ite Prod.fst, workR]
  repeat' split
  all_goals first | rfl | (exfalso; omega)
set_option maxHeartbeats 4000000 in
theorem work11 {mo mm8 : Nat} {x1 x2 x3 x4 x5 : Int32} {I : hI} {J : hJ} {R : hR} (vmm : R mo 8 = some mm8) (ne : mm8 ≠ mo) (h : 0 ≤ (I mm8 x1.toNatClampNeg).toInt) : (F_X11_work mo x1 x2 x3 x4 x5 I J R).1 = workR (I mm8 x1.toNatClampNeg).toInt x1.toInt x2.toInt x3.toInt x4.toInt x5.toInt := by
  have hm := hasM (mo := mo) (s := x1) (x2 := x2) (I := u2 I mo 0 0) (J := J) (R := R) vmm (by rw [u2_ne ne]; exact h)
  rw [u2_ne ne] at hm
  simp only [F_X11_work, nm, inM, ite1, Int32.toInt_toInt64, cJ0, cJ9, cJ2, cJm1, cJm1000, cJ1000, hm, e0, apply_ite Prod.fst, workR]
  repeat' split
  all_goals first | rfl | (exfalso; omega)
theorem workOut {sz x1 x2 x3 x4 x5 : Int} (h : ¬ (0 ≤ x1 ∧ x1 ≤ 9)) : workR sz x1 x2 x3 x4 x5 = -3 := by unfold workR; rw [if_neg (fun q => h q.1)]
theorem st_work {L : List Nat} {C : Nat → Nat} {x mo : Nat} {I I1 I2 : hI} {J J1 J2 : hJ} {R R1 R2 : hR} (uq : Uq L C) (mx : x ∈ L) (kx : C x = 10) (mm : mo ∈ L) (km : C mo = 11) (oI : OkI L C I) (oR : OkR L C R) (ow0 : Ow L C R) (rel : RS L C x mo (I, J, R)) {x1 : Int32} {x2 : Int32} {x3 : Int32} {x4 : Int32} {x5 : Int32} {ra rb : Int32} (fa : F_X10_work x x1 x2 x3 x4 x5 I J R = (ra, (I1, J1, R1))) (sa : Sm C ms_X10_work (I, J, R) (I1, J1, R1)) (oI1 : OkI L C I1) (oR1 : OkR L C R1) (fb : F_X11_work mo x1 x2 x3 x4 x5 I1 J1 R1 = (rb, (I2, J2, R2))) (sb : Sm C ms_X11_work (I1, J1, R1) (I2, J2, R2)) (oI2 : OkI L C I2) (oR2 : OkR L C R2) : RS L C x mo (I2, J2, R2) ∧ ra = rb := by
  have r1 := RS.sm rel oR1 sa (by decide)
  have r2 := RS.sm r1 oR2 sb (by decide)
  refine ⟨r2, ?_⟩
  obtain ⟨sh, msh, vsh, ksh⟩ := rf_10_4 oR mx kx
  have fa1 : (F_X10_work x x1 x2 x3 x4 x5 I J R).1 = ra := by rw [fa]
  have fb1 : (F_X11_work mo x1 x2 x3 x4 x5 I1 J1 R1).1 = rb := by rw [fb]
  by_cases h1 : 0 ≤ x1.toInt ∧ x1.toInt ≤ 9
  · have hlt : x1.toNatClampNeg < 20 := by have := nine h1; omega
    obtain ⟨b, mb, vb, kb⟩ := rr_57 (i := x1) oR msh ksh (vp_in_iff.mpr ⟨by omega, by omega⟩)
    obtain ⟨mm8, mmm, vmm, kmm⟩ := rf_11_8 oR1 mm km
    have q1 := work10 (x2 := x2) (x3 := x3) (x4 := x4) (x5 := x5) (J := J) vsh vb (rf_7_1 oI mb kb).1
    have q2 := work11 (x2 := x2) (x3 := x3) (x4 := x4) (x5 := x5) (J := J1) vmm (ne_role kmm km (by decide)) (rd_70 (i := x1) oI1 mmm kmm (vp_in_iff.mpr ⟨by omega, by omega⟩)).1
    have e5 : I1 mm8 x1.toNatClampNeg = I b 1 := by
      rw [show I1 mm8 x1.toNatClampNeg = I mm8 x1.toNatClampNeg from (sa mm8 _ (by rw [kmm]; exact nm_arr (by decide) rfl)).1]
      exact (rel sh msh ksh mm8 mmm kmm _ hlt b vb).symm
    rw [← fa1, ← fb1, q1, q2, e5]
  · have q1 : (F_X10_work x x1 x2 x3 x4 x5 I J R).1 = -3 := by
      simp only [F_X10_work, nm, isW, ite1, cI0, cI9]
      rw [if_neg h1]
    have q2 : (F_X11_work mo x1 x2 x3 x4 x5 I1 J1 R1).1 = -3 := by
      simp only [F_X11_work, nm, inM, ite1, Int32.toInt_toInt64, cJ0, cJ9]
      rw [if_neg h1]
    rw [← fa1, ← fb1, q1, q2]
