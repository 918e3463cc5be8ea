/-- one member more in a shape of the class, in full -/
theorem add7F {b ma me so fa a t : Nat} {x1 x2 : Int32} {I : hI} {J : hJ} {R : hR} (vma : R b 0 = some ma) (vme : R ma (I b 1).toNatClampNeg = some me) (vso : R me 3 = some so) (vfa : R me 7 = some fa) (h : (I b 1).toInt < 2147483647) (n1 : me ≠ so) (n2 : me ≠ fa) (n3 : so ≠ fa) (nb1 : me ≠ b) (nb2 : so ≠ b) (nb3 : fa ≠ b) (ht : x2.toInt = t) (hd : dgL 5 0 (t / 8) = some a) :
    ∃ I1, F_X7_add b x1 x2 I J R = (I b 1, (I1, J, R)) ∧ I1 b 1 = I b 1 + 1 ∧ (∀ c, c ≠ b → c ≠ me → c ≠ so → c ≠ fa → I1 c = I c) ∧ I1 me 0 = x1 ∧ (I1 me 1).toInt = ((t % 8 : Nat) : Int) ∧ (I1 me 2).toInt = a ∧ I1 me 4 = 0 ∧ I1 me 5 = -1 ∧ I1 me 6 = 0 ∧ (∀ q, q < a → (I1 so q).toInt = ((t / 8 / 8 ^ q % 8 : Nat) : Int) - 1) ∧ (∀ q, q < 4 → I1 fa q = 1) ∧ a ≤ 4 := by
  obtain ⟨I1, e1, e2, e3, e4, e5, e6, e7, e8, e9, e10, e11⟩ := become_full (x1 := x1) (x2 := x2) (I := I) (J := J) vso vfa n1 n2 n3 ht hd
  refine ⟨u2 I1 b 1 (I b 1 + 1), ?_, u2_at, fun c q1 q2 q3 q4 => by rw [u2_ne q1, e2 c q2 q3 q4], ?_⟩
  · simp only [F_X7_add, nm, nmW, vma, vme, Option.getD_some, e1]
    rw [addsub1 h]
  · rw [u2_ne nb1, u2_ne nb2, u2_ne nb3]
    exact ⟨e3, e4, e5, e6, e7, e8, e9, e10, e11⟩
theorem sortsA {t : Int} (h : sortsOk t) : ∃ a, dgL 5 0 (t.toNat / 8) = some a := Option.isSome_iff_exists.mp h.2.2
/-- both sides together -/
theorem addM {L : List Nat} {C : Nat → Nat} {x mo sh m8 n9 y10 o11 e12 w13 f14 u15 t16 s b : Nat} {xs x2 x3 : Int32} {I K : hI} {J : hJ} {R : hR} (kx : C x = 10) (km : C mo = 11) (mm : mo ∈ L) (oI : OkI L C I) (oR : OkR L C R) (ow0 : Ow L C R) (cel : CelM L C x mo R sh m8 n9 y10 o11 e12 w13 f14 u15 t16) (she : ShEq I R sh m8 n9 y10 o11 e12 w13 f14 u15 t16) (hs : s < 20) (hxs : xs.toInt = s) (vb : R sh s = some b) (h2 : 0 ≤ x2.toInt ∧ x2.toInt ≤ 99) (h3 : sortsOk x3.toInt) (h6 : (I b 1).toInt < 6) (hK : ∀ c, C c ≠ 45 → K c = I c) :
    ∃ I1 I2, F_X7_add b x2 x3 K J R = (I b 1, (I1, J, R)) ∧ F_X11_add mo xs x2 x3 (u2 I1 mo 0 0) J R = (I b 1, (I2, J, R)) ∧ ((∀ c, (C c = 7 ∨ C c = 5 ∨ C c = 54 ∨ C c = 55) → I2 c = I1 c) → RM L C x mo (I2, J, R)) := by
  have cel0 := cel
  obtain ⟨c4, d8, d9, d10, d11, d12, d13, d14, d15, d16⟩ := cel
  obtain ⟨mb, kb⟩ := shapeAt oR c4.1 c4.2.1 hs vb
  have rg := rf_7_1 oI mb kb
  obtain ⟨q1, q2⟩ := she s hs b vb
  have q1 : I b 1 = I m8 s := q1
  obtain ⟨ma, mma, vma, kma⟩ := rf_7_0 oR mb kb
  obtain ⟨me, mme, vme, kme⟩ := rr_56 (i := I b 1) oR mma kma (vp_in_iff.mpr ⟨rg.1, h6⟩)
  obtain ⟨so, mso, vso, kso⟩ := rf_5_3 oR mme kme
  obtain ⟨fac, mfa, vfa, kfa⟩ := rf_5_7 oR mme kme
  have kK : ∀ c r, C c = r → r ≠ 45 → K c = I c := fun c r h z => hK c (by rw [h]; exact z)
  have kb1 : K b = I b := kK b 7 kb (by decide)
  obtain ⟨t, ht⟩ : ∃ t : Nat, x3.toInt = t := ⟨x3.toInt.toNat, by have := h3.1; omega⟩
  obtain ⟨a, hd⟩ := sortsA h3
  rw [ht, Int.toNat_natCast] at hd
  obtain ⟨I1, e1, e2, e3, e4, e5, e6, e7, e8, e9, e10, e11, e12'⟩ := add7F (x1 := x2) (x2 := x3) (I := K) (J := J) vma (by rw [kb1]; exact vme) vso vfa (by rw [kb1]; omega) (ne_role kme kso (by decide)) (ne_role kme kfa (by decide)) (ne_role kso kfa (by decide)) (ne_role kme kb (by decide)) (ne_role kso kb (by decide)) (ne_role kfa kb (by decide)) ht hd
  rw [kb1] at e1 e2
  have f1 : ∀ c r, C c = r → r ≠ 7 → r ≠ 5 → r ≠ 54 → r ≠ 55 → r ≠ 45 → I1 c = I c := fun c r h z1 z2 z3 z4 z5 => by rw [e3 c (ne_role h kb z1) (ne_role h kme z2) (ne_role h kso z3) (ne_role h kfa z4), kK c r h z5]
  have g : ∀ c r, C c = r → r ≠ 11 → u2 I1 mo 0 0 c = I1 c := fun c r h z => u2_ne (ne_role h km z)
  have gi : ∀ c r, C c = r → r ≠ 11 → r ≠ 7 → r ≠ 5 → r ≠ 54 → r ≠ 55 → r ≠ 45 → u2 I1 mo 0 0 c = I c := fun c r h z0 z1 z2 z3 z4 z5 => by rw [g c r h z0, f1 c r h z1 z2 z3 z4 z5]
  have g8 : u2 I1 mo 0 0 m8 s = I b 1 := by rw [gi m8 70 d8.2.1 (by decide) (by decide) (by decide) (by decide) (by decide) (by decide)]; exact q1.symm
  have hx : x3.toInt = (x3.toInt.toNat : Int) := by have := h3.1; omega
  obtain ⟨I2, p1, p2⟩ := madd1_L (x1 := xs) (x2 := x2) (x3 := x3) (I := u2 I1 mo 0 0) (J := J) d8 d9 d10 d11 d12 d13 d14 d15 d16 hxs hs ht (by rw [g8]; exact ⟨rg.1, h6⟩) 5 0 (t / 8) a 0 (x3 / 8) (by decide) (div8 ht) (by omega) (by omega) hd
  rw [g8] at p1 p2
  have hF : F_X11_add mo xs x2 x3 (u2 I1 mo 0 0) J R = F_X11_add_37 mo xs x2 x3 m8 5 (u2 I1 mo 0 0) J R 0 (x3 / 8) := by
    simp only [F_X11_add, nm, inM, ite1, Int32.toInt_toInt64, cJ0, cJ99, d8.2.2, Option.getD_some]
    rw [if_pos h2, if_neg (by rw [ilt, cI0]; have := h3.1; omega), if_neg (by rw [ieq, rem8 ht, cI7]; have := h3.2.1; omega)]
    rfl
  refine ⟨I1, I2, e1, by rw [hF]; exact p1, fun fr => ⟨kx, km, sh, m8, n9, y10, o11, e12, w13, f14, u15, t16, cel0, ?_⟩⟩
  obtain ⟨r1, r2, ⟨z1, z1a, r3⟩, ⟨z2, z2a, r4⟩, r5, r6, r7, r8, r9⟩ := p2
  have hb0 := nat_of rg.1
  obtain ⟨m, hmm⟩ : ∃ m, m = 6 * s + (I b 1).toNatClampNeg := ⟨_, rfl⟩
  rw [← hmm] at r2 r3 r4 r5 r6 r7 r8 r9
  have f5 : ∀ c, C c = 5 → I2 c = I1 c := fun c h => fr c (Or.inr (Or.inl h))
  have f54 : ∀ c, C c = 54 → I2 c = I1 c := fun c h => fr c (Or.inr (Or.inr (Or.inl h)))
  have f55 : ∀ c, C c = 55 → I2 c = I1 c := fun c h => fr c (Or.inr (Or.inr (Or.inr h)))
  have pz := add1 (x := I b 1) (b := 6) (by omega) (by omega)
  have ga : ∀ c r, C c = r → r ≠ 11 → r ≠ 7 → r ≠ 5 → r ≠ 54 → r ≠ 55 → r ≠ 45 → u2 I1 mo 0 0 c = I c := gi
  refine ShEq.upd (I := I) (I2 := I2) (z := I b 1 + 1) (j0 := (I b 1).toNatClampNeg) (s0 := s) she ow0 oR c4.1 c4.2.1 hs (by omega) vb vma vme vso vfa ?_ (fun b' kb' hb => ?_) ?_ (fun q hq => ?_) (fun j h hj => by omega) (fun c kc hc => ?_) (fun c kc hc => ?_) (fun c kc hc => ?_) (fun q hq => ?_) (fun q hq => ?_) (fun c hc kc => (rf_5_2 oI hc kc).2) (fun _ => ?_)
  · rw [fr b (Or.inl kb), e2]
  · rw [fr b' (Or.inl kb'), e3 b' hb (ne_role kb' kme (by decide)) (ne_role kb' kso (by decide)) (ne_role kb' kfa (by decide)), kK b' 7 kb' (by decide)]
  · rw [r1, up_at, g8]
  · rw [r1, up_ne hq, ga m8 70 d8.2.1 (by decide) (by decide) (by decide) (by decide) (by decide) (by decide)]
  · rw [f5 c kc, e3 c (ne_role kc kb (by decide)) hc (ne_role kc kso (by decide)) (ne_role kc kfa (by decide)), kK c 5 kc (by decide)]
  · rw [f54 c kc, e3 c (ne_role kc kb (by decide)) (ne_role kc kme (by decide)) hc (ne_role kc kfa (by decide)), kK c 54 kc (by decide)]
  · rw [f55 c kc, e3 c (ne_role kc kb (by decide)) (ne_role kc kme (by decide)) (ne_role kc kso (by decide)) hc, kK c 55 kc (by decide)]
  · rw [← hmm] at hq
    rw [r2, r3, r4, r5, r6, r7, up_ne hq, up_ne hq, up_ne hq, up_ne hq, up_ne hq, up_ne hq, ga n9 71 d9.2.1 (by decide) (by decide) (by decide) (by decide) (by decide) (by decide), ga y10 72 d10.2.1 (by decide) (by decide) (by decide) (by decide) (by decide) (by decide), ga e12 74 d12.2.1 (by decide) (by decide) (by decide) (by decide) (by decide) (by decide), ga w13 75 d13.2.1 (by decide) (by decide) (by decide) (by decide) (by decide) (by decide), ga f14 76 d14.2.1 (by decide) (by decide) (by decide) (by decide) (by decide) (by decide), ga u15 77 d15.2.1 (by decide) (by decide) (by decide) (by decide) (by decide) (by decide)]
    exact ⟨rfl, rfl, rfl, rfl, rfl, rfl⟩
  · rw [← hmm] at hq
    have := r8 q hq
    rw [ga o11 73 d11.2.1 (by decide) (by decide) (by decide) (by decide) (by decide) (by decide), ga t16 78 d16.2.1 (by decide) (by decide) (by decide) (by decide) (by decide) (by decide)] at this
    exact this
  · rw [← hmm]
    unfold MemEq
    rw [f5 me kme, f54 so kso, f55 fac kfa, r2, r3, r4, r5, r6, r7, up_at, up_at, up_at, up_at, up_at, up_at]
    refine ⟨e4, Int32.toInt_inj.mp (by rw [e5, z1a]), Int32.toInt_inj.mp (by rw [e6, z2a]), fun i hi => ?_, e7, e8, fun _ => e9, fun i hi => by rw [e11 i hi, (r9 i hi).1]⟩
    rw [e6] at hi
    exact Int32.toInt_inj.mp (by rw [e10 i (by omega), (r9 i (by omega)).2, if_pos (by omega)])
theorem s1_ask {L : List Nat} {C : Nat → Nat} {x mo : Nat} {I I1 I2 : hI} {J J1 J2 : hJ} {R R1 R2 : hR} (uq : Uq L C) (mx : x ∈ L) (kx : C x = 10) (mm : mo ∈ L) (km : C mo = 11) (oI : OkI L C I) (oR : OkR L C R) (ow0 : Ow L C R) (rel : RM L C x mo (I, J, R)) {x1 : Int32} {x2 : Int32} {x3 : Int32} {ra rb : Int32} (fa : F_X10_ask x x1 x2 x3 I J R = (ra, (I1, J1, R1))) (sa : Sm C ms_X10_ask (I, J, R) (I1, J1, R1)) (oI1 : OkI L C I1) (oR1 : OkR L C R1) (fb : F_X11_ask mo x1 x2 x3 I1 J1 R1 = (rb, (I2, J2, R2))) (sb : Sm C ms_X11_ask (I1, J1, R1) (I2, J2, R2)) (oI2 : OkI L C I2) (oR2 : OkR L C R2) : RM L C x mo (I2, J2, R2) ∧ ra = rb := by
  have rel0 := rel
  obtain ⟨-, -, sh, m8, n9, y10, o11, e12, w13, f14, u15, t16, cel, she⟩ := rel
  have cel : CelM L C x mo R sh m8 n9 y10 o11 e12 w13 f14 u15 t16 := cel
  have she : ShEq I R sh m8 n9 y10 o11 e12 w13 f14 u15 t16 := she
  have cel0 := cel
  obtain ⟨c4, d8, d9, d10, d11, d12, d13, d14, d15, d16⟩ := cel
  have ar : ∀ c ∈ L, C c = 5 → 0 ≤ (I c 2).toInt ∧ (I c 2).toInt ≤ 4 := fun c hc kc => rf_5_2 oI hc kc
  by_cases h1 : 0 ≤ x1.toInt ∧ x1.toInt ≤ 9
  · have hlt : 10 + x1.toNatClampNeg < 20 := by have := nine h1; omega
    have hn1 := nat_of h1.1
    obtain ⟨b, mb, vb0, kb⟩ := rr_57 (i := (10 + x1)) oR c4.1 c4.2.1 (vp_in_iff.mpr ⟨by rw [ten h1]; omega, by rw [ten h1]; omega⟩)
    have vb : R sh (10 + x1.toNatClampNeg) = some b := by rw [← vb0, tenN h1]
    have hxs : ((10 + x1) : Int32).toInt = ((10 + x1.toNatClampNeg : Nat) : Int) := by rw [ten h1]; omega
    have q1 : I b 1 = I m8 (10 + x1.toNatClampNeg) := (she _ hlt b vb).1
    obtain ⟨A1, A2, A3⟩ := ask10 (x2 := x2) (x3 := x3) (J := J) oI oR mx kx c4.1 c4.2.1 c4.2.2 (fun _ => vb)
    simp only [F_X11_ask, nm, nmU, inM, ite1, Int32.toInt_toInt64, cJ0, cJ9] at fb
    rw [if_pos h1] at fb
    have hsI : 0 ≤ Int32.toInt (10 + x1) ∧ Int32.toInt (10 + x1) ≤ 19 := by rw [ten h1]; omega
    have e9 : ((10 + x1) : Int32).toNatClampNeg = 10 + x1.toNatClampNeg := clamp_toInt hxs
    by_cases ok : askOk x1 x2 x3
    · by_cases h6 : (I b 1).toInt < 6
      · obtain ⟨w, mw, vw, kw⟩ := rf_10_5 oR mx kx
        obtain ⟨ww, mww, vww, kww⟩ := rf_9_2 oR mw kw
        obtain ⟨K, f1, f2⟩ := forgetF (x1 := x1) (I := I) (J := J) vww
        have hb : K b = I b := f2 b (ne_role kb kww (by decide))
        obtain ⟨K1, K2, g1, g2, g3⟩ := addM (K := K) (J := J) (xs := (10 + x1)) kx km mm oI oR ow0 cel0 she hlt hxs vb ok.2.1 ok.2.2 h6 (fun c hc => f2 c (fun e => hc (by rw [e]; exact kww)))
        have e1 : F_X10_ask x x1 x2 x3 I J R = (I b 1, (K1, J, R)) := by
          simp only [F_X10_ask, F_X10_isName, nm, nmU, nmW, isW, ite1, areS, cI0, cI9, cI99, c4.2.2, Option.getD_some, lt6]
          rw [if_pos h1, if_pos ok.2.1, if_pos ok.2.2, tenN h1]
          simp only [vb, Option.getD_some, vw, f1]
          rw [if_pos h6]
          simp only [g1]
        rw [e1] at fa
        (obtain ⟨qa1, qa2, qa3, qa4⟩ := pairE fa; subst qa1 qa2 qa3 qa4)
        rw [g2] at fb
        (obtain ⟨qa1, qa2, qa3, qa4⟩ := pairE fb; subst qa1 qa2 qa3 qa4)
        exact ⟨g3 (fun c hc => funext fun k => (sb c k (by rcases hc with h | h | h | h <;> rw [h] <;> exact nm_role rfl)).1), rfl⟩
      · have e1 := A2 ok h6
        rw [e1] at fa
        (obtain ⟨qa1, qa2, qa3, qa4⟩ := pairE fa; subst qa1 qa2 qa3 qa4)
        obtain ⟨-, B2, -⟩ := madd (x2 := x2) (x3 := x3) (I := u2 I mo 0 0) (J := J) (s := (10 + x1)) (wf_11_0 oI km (Rg_any _)) oR mm km d8.1 d8.2.1 d8.2.2 hsI
        have q0 : u2 I mo 0 0 m8 = I m8 := u2_ne (ne_role d8.2.1 km (by decide))
        rw [q0, e9, ← q1] at B2
        rw [B2 ok.2 h6] at fb
        (obtain ⟨qa1, qa2, qa3, qa4⟩ := pairE fb; subst qa1 qa2 qa3 qa4)
        exact ⟨RM.sm (ms := [11 * 64]) rel0 oR (Sm.stI Sm.rf km (by decide)) rfl, rfl⟩
    · have e1 := A1 ok
      rw [e1] at fa
      (obtain ⟨qa1, qa2, qa3, qa4⟩ := pairE fa; subst qa1 qa2 qa3 qa4)
      obtain ⟨B1, -, -⟩ := madd (x2 := x2) (x3 := x3) (I := u2 I mo 0 0) (J := J) (s := (10 + x1)) (wf_11_0 oI km (Rg_any _)) oR mm km d8.1 d8.2.1 d8.2.2 hsI
      rw [B1 (fun h => ok ⟨h1, h⟩)] at fb
      (obtain ⟨qa1, qa2, qa3, qa4⟩ := pairE fb; subst qa1 qa2 qa3 qa4)
      exact ⟨RM.sm (ms := [11 * 64]) rel0 oR (Sm.stI Sm.rf km (by decide)) rfl, rfl⟩
  · have e1 : F_X10_ask x x1 x2 x3 I J R = (-3, (I, J, R)) := by
      simp only [F_X10_ask, nm, isW, ite1, cI0, cI9]
      rw [if_neg h1]
    rw [e1] at fa
    (obtain ⟨qa1, qa2, qa3, qa4⟩ := pairE fa; subst qa1 qa2 qa3 qa4)
    simp only [F_X11_ask, nm, nmU, inM, ite1, Int32.toInt_toInt64, cJ0, cJ9] at fb
    rw [if_neg h1] at fb
    (obtain ⟨qa1, qa2, qa3, qa4⟩ := pairE fb; subst qa1 qa2 qa3 qa4)
    exact ⟨RM.sm (ms := [11 * 64]) rel0 oR (Sm.stI Sm.rf km (by decide)) rfl, rfl⟩
theorem s1_offer {L : List Nat} {C : Nat → Nat} {x mo : Nat} {I I1 I2 : hI} {J J1 J2 : hJ} {R R1 R2 : hR} (uq : Uq L C) (mx : x ∈ L) (kx : C x = 10) (mm : mo ∈ L) (km : C mo = 11) (oI : OkI L C I) (oR : OkR L C R) (ow0 : Ow L C R) (rel : RM L C x mo (I, J, R)) {x1 : Int32} {x2 : Int32} {x3 : Int32} {ra rb : Int32} (fa : F_X10_offer x x1 x2 x3 I J R = (ra, (I1, J1, R1))) (sa : Sm C ms_X10_offer (I, J, R) (I1, J1, R1)) (oI1 : OkI L C I1) (oR1 : OkR L C R1) (fb : F_X11_offer mo x1 x2 x3 I1 J1 R1 = (rb, (I2, J2, R2))) (sb : Sm C ms_X11_offer (I1, J1, R1) (I2, J2, R2)) (oI2 : OkI L C I2) (oR2 : OkR L C R2) : RM L C x mo (I2, J2, R2) ∧ ra = rb := by
  have rel0 := rel
  obtain ⟨-, -, sh, m8, n9, y10, o11, e12, w13, f14, u15, t16, cel, she⟩ := rel
  have cel : CelM L C x mo R sh m8 n9 y10 o11 e12 w13 f14 u15 t16 := cel
  have she : ShEq I R sh m8 n9 y10 o11 e12 w13 f14 u15 t16 := she
  have cel0 := cel
  obtain ⟨c4, d8, d9, d10, d11, d12, d13, d14, d15, d16⟩ := cel
  have ar : ∀ c ∈ L, C c = 5 → 0 ≤ (I c 2).toInt ∧ (I c 2).toInt ≤ 4 := fun c hc kc => rf_5_2 oI hc kc
  by_cases h1 : 0 ≤ x1.toInt ∧ x1.toInt ≤ 9
  · have hlt : x1.toNatClampNeg < 20 := by have := nine h1; omega
    have hn1 := nat_of h1.1
    obtain ⟨b, mb, vb0, kb⟩ := rr_57 (i := x1) oR c4.1 c4.2.1 (vp_in_iff.mpr ⟨by omega, by omega⟩)
    have vb : R sh (x1.toNatClampNeg) = some b := by rw [← vb0]
    have hxs : (x1 : Int32).toInt = ((x1.toNatClampNeg : Nat) : Int) := by omega
    have q1 : I b 1 = I m8 (x1.toNatClampNeg) := (she _ hlt b vb).1
    obtain ⟨A1, A2, A3⟩ := offer10 (x2 := x2) (x3 := x3) (J := J) oI oR c4.1 c4.2.1 c4.2.2 (fun _ => vb)
    simp only [F_X11_offer, nm, nmU, inM, ite1, Int32.toInt_toInt64, cJ0, cJ9] at fb
    rw [if_pos h1] at fb
    have hsI : 0 ≤ Int32.toInt x1 ∧ Int32.toInt x1 ≤ 19 := by omega
    have e9 : (x1 : Int32).toNatClampNeg = x1.toNatClampNeg := clamp_toInt hxs
    by_cases ok : askOk x1 x2 x3
    · by_cases h6 : (I b 1).toInt < 6
      · obtain ⟨K1, K2, g1, g2, g3⟩ := addM (K := I) (J := J) (xs := x1) kx km mm oI oR ow0 cel0 she hlt hxs vb ok.2.1 ok.2.2 h6 (fun _ _ => rfl)
        have e1 : F_X10_offer x x1 x2 x3 I J R = (I b 1, (K1, J, R)) := by
          simp only [F_X10_offer, F_X10_isName, nm, nmU, isW, ite1, areS, cI0, cI9, cI99, c4.2.2, Option.getD_some, lt6]
          rw [if_pos h1, if_pos ok.2.1, if_pos ok.2.2]
          simp only [vb, Option.getD_some]
          rw [if_pos h6]
          simp only [g1]
        rw [e1] at fa
        (obtain ⟨qa1, qa2, qa3, qa4⟩ := pairE fa; subst qa1 qa2 qa3 qa4)
        rw [g2] at fb
        (obtain ⟨qa1, qa2, qa3, qa4⟩ := pairE fb; subst qa1 qa2 qa3 qa4)
        exact ⟨g3 (fun c hc => funext fun k => (sb c k (by rcases hc with h | h | h | h <;> rw [h] <;> exact nm_role rfl)).1), rfl⟩
      · have e1 := A2 ok h6
        rw [e1] at fa
        (obtain ⟨qa1, qa2, qa3, qa4⟩ := pairE fa; subst qa1 qa2 qa3 qa4)
        obtain ⟨-, B2, -⟩ := madd (x2 := x2) (x3 := x3) (I := u2 I mo 0 0) (J := J) (s := x1) (wf_11_0 oI km (Rg_any _)) oR mm km d8.1 d8.2.1 d8.2.2 hsI
        have q0 : u2 I mo 0 0 m8 = I m8 := u2_ne (ne_role d8.2.1 km (by decide))
        rw [q0, e9, ← q1] at B2
        rw [B2 ok.2 h6] at fb
        (obtain ⟨qa1, qa2, qa3, qa4⟩ := pairE fb; subst qa1 qa2 qa3 qa4)
        exact ⟨RM.sm (ms := [11 * 64]) rel0 oR (Sm.stI Sm.rf km (by decide)) rfl, rfl⟩
    · have e1 := A1 ok
      rw [e1] at fa
      (obtain ⟨qa1, qa2, qa3, qa4⟩ := pairE fa; subst qa1 qa2 qa3 qa4)
      obtain ⟨B1, -, -⟩ := madd (x2 := x2) (x3 := x3) (I := u2 I mo 0 0) (J := J) (s := x1) (wf_11_0 oI km (Rg_any _)) oR mm km d8.1 d8.2.1 d8.2.2 hsI
      rw [B1 (fun h => ok ⟨h1, h⟩)] at fb
      (obtain ⟨qa1, qa2, qa3, qa4⟩ := pairE fb; subst qa1 qa2 qa3 qa4)
      exact ⟨RM.sm (ms := [11 * 64]) rel0 oR (Sm.stI Sm.rf km (by decide)) rfl, rfl⟩
  · have e1 : F_X10_offer x x1 x2 x3 I J R = (-3, (I, J, R)) := by
      simp only [F_X10_offer, nm, isW, ite1, cI0, cI9]
      rw [if_neg h1]
    rw [e1] at fa
    (obtain ⟨qa1, qa2, qa3, qa4⟩ := pairE fa; subst qa1 qa2 qa3 qa4)
    simp only [F_X11_offer, nm, nmU, inM, ite1, Int32.toInt_toInt64, cJ0, cJ9] at fb
    rw [if_neg h1] at fb
    (obtain ⟨qa1, qa2, qa3, qa4⟩ := pairE fb; subst qa1 qa2 qa3 qa4)
    exact ⟨RM.sm (ms := [11 * 64]) rel0 oR (Sm.stI Sm.rf km (by decide)) rfl, rfl⟩
theorem s1_strip {L : List Nat} {C : Nat → Nat} {x mo : Nat} {I I1 I2 : hI} {J J1 J2 : hJ} {R R1 R2 : hR} (uq : Uq L C) (mx : x ∈ L) (kx : C x = 10) (mm : mo ∈ L) (km : C mo = 11) (oI : OkI L C I) (oR : OkR L C R) (ow0 : Ow L C R) (rel : RM L C x mo (I, J, R)) {x1 : Int32} {x2 : Int32} {ra rb : Int32} (fa : F_X10_strip x x1 x2 I J R = (ra, (I1, J1, R1))) (sa : Sm C ms_X10_strip (I, J, R) (I1, J1, R1)) (oI1 : OkI L C I1) (oR1 : OkR L C R1) (fb : F_X11_strip mo x1 x2 I1 J1 R1 = (rb, (I2, J2, R2))) (sb : Sm C ms_X11_strip (I1, J1, R1) (I2, J2, R2)) (oI2 : OkI L C I2) (oR2 : OkR L C R2) : RM L C x mo (I2, J2, R2) ∧ ra = rb := by
  have rel0 := rel
  obtain ⟨-, -, sh, m8, n9, y10, o11, e12, w13, f14, u15, t16, cel, she⟩ := rel
  have cel : CelM L C x mo R sh m8 n9 y10 o11 e12 w13 f14 u15 t16 := cel
  have she : ShEq I R sh m8 n9 y10 o11 e12 w13 f14 u15 t16 := she
  have cel0 := cel
  obtain ⟨c4, d8, d9, d10, d11, d12, d13, d14, d15, d16⟩ := cel
  have ar : ∀ c ∈ L, C c = 5 → 0 ≤ (I c 2).toInt ∧ (I c 2).toInt ≤ 4 := fun c hc kc => rf_5_2 oI hc kc
  obtain ⟨w, mw, vw, kw⟩ := rf_10_5 oR mx kx
  obtain ⟨ww, mww, vww, kww⟩ := rf_9_2 oR mw kw
  have fin : ∀ (s0 b : Nat) (K : hI), s0 < 20 → R sh s0 = some b → (∀ c, c ≠ ww → K c = I c) → RM L C x mo (u2 (u2 (u2 K b 1 0) mo 0 0) m8 s0 0, J, R) := fun s0 b K hs vb hK => by
    obtain ⟨mb, kb⟩ := shapeAt oR c4.1 c4.2.1 hs vb
    obtain ⟨ma, mma, vma, kma⟩ := rf_7_0 oR mb kb
    obtain ⟨me, mme, vme, kme⟩ := rr_56 (i := 0) oR mma kma (vp_in_iff.mpr ⟨by decide, by decide⟩)
    obtain ⟨so, mso, vso, kso⟩ := rf_5_3 oR mme kme
    obtain ⟨fac, mfa, vfa, kfa⟩ := rf_5_7 oR mme kme
    have fr : ∀ c r, C c = r → r ≠ 70 → r ≠ 11 → r ≠ 7 → r ≠ 45 → u2 (u2 (u2 K b 1 0) mo 0 0) m8 s0 0 c = I c := fun c r h z1 z2 z3 z4 => by rw [u2_ne (ne_role h d8.2.1 z1), u2_ne (ne_role h km z2), u2_ne (ne_role h kb z3), hK c (ne_role h kww z4)]
    refine ⟨kx, km, sh, m8, n9, y10, o11, e12, w13, f14, u15, t16, cel0, ShEq.upd (I := I) (I2 := u2 (u2 (u2 K b 1 0) mo 0 0) m8 s0 0) (z := 0) (j0 := 0) (s0 := s0) she ow0 oR c4.1 c4.2.1 hs (by omega) vb vma vme vso vfa ?_ (fun b' kb' hb => ?_) u2_at (fun q hq => ?_) (fun j h _ => by rw [cI0] at h; omega) (fun c kc _ => fr c 5 kc (by decide) (by decide) (by decide) (by decide)) (fun c kc _ => fr c 54 kc (by decide) (by decide) (by decide) (by decide)) (fun c kc _ => fr c 55 kc (by decide) (by decide) (by decide) (by decide)) (fun q _ => ?_) (fun q _ => ?_) (fun c hc kc => (ar c hc kc).2) (fun h => by rw [cI0] at h; omega)⟩
    · rw [u2_ne (ne_role kb d8.2.1 (by decide)), u2_ne (ne_role kb km (by decide)), u2_at]
    · rw [u2_ne (ne_role kb' d8.2.1 (by decide)), u2_ne (ne_role kb' km (by decide)), u2_ne hb, hK b' (ne_role kb' kww (by decide))]
    · rw [u2_nk hq, u2_ne (ne_role d8.2.1 km (by decide)), u2_ne (ne_role d8.2.1 kb (by decide)), hK m8 (ne_role d8.2.1 kww (by decide))]
    · rw [fr n9 71 d9.2.1 (by decide) (by decide) (by decide) (by decide), fr y10 72 d10.2.1 (by decide) (by decide) (by decide) (by decide), fr e12 74 d12.2.1 (by decide) (by decide) (by decide) (by decide), fr w13 75 d13.2.1 (by decide) (by decide) (by decide) (by decide), fr f14 76 d14.2.1 (by decide) (by decide) (by decide) (by decide), fr u15 77 d15.2.1 (by decide) (by decide) (by decide) (by decide)]
      exact ⟨rfl, rfl, rfl, rfl, rfl, rfl⟩
    · rw [fr o11 73 d11.2.1 (by decide) (by decide) (by decide) (by decide), fr t16 78 d16.2.1 (by decide) (by decide) (by decide) (by decide)]
      exact ⟨rfl, rfl⟩
  simp only [F_X10_strip, nm, nmW, isW, ite1, cI0, show ((10 : Int32) - 1).toInt = 9 by decide, c4.2.2, vw, Option.getD_some] at fa
  simp only [F_X11_strip, F_X11_strip_32, nm, inM, ite1, Int32.toInt_toInt64, cJ0, cJ9] at fb
  by_cases h1 : 0 ≤ x2.toInt ∧ x2.toInt ≤ 9
  · simp only [if_pos h1] at fa fb
    by_cases h0 : x1 = 0
    · simp only [if_pos h0] at fa fb
      have hlt : x2.toNatClampNeg < 20 := by have := nine h1; omega
      obtain ⟨b, mb, vb, kb⟩ := rr_57 (i := x2) oR c4.1 c4.2.1 (vp_in_iff.mpr ⟨by omega, by omega⟩)
      have rb0 : I b 1 = I m8 x2.toNatClampNeg := (she _ hlt b vb).1
      simp only [vb, Option.getD_some] at fa
      (obtain ⟨qa1, qa2, qa3, qa4⟩ := pairE fa; subst qa1 qa2 qa3 qa4)
      simp only [d8.2.2, Option.getD_some] at fb
      have q0 : u2 (u2 I b 1 0) mo 0 0 m8 = I m8 := by rw [u2_ne (ne_role d8.2.1 km (by decide)), u2_ne (ne_role d8.2.1 kb (by decide))]
      rw [q0] at fb
      (obtain ⟨qa1, qa2, qa3, qa4⟩ := pairE fb; subst qa1 qa2 qa3 qa4)
      exact ⟨fin _ b I hlt vb (fun _ _ => rfl), rb0⟩
    · simp only [if_neg h0] at fa fb
      have hlt : 10 + x2.toNatClampNeg < 20 := by have := nine h1; omega
      obtain ⟨b, mb, vb, kb⟩ := rr_57 (i := 10 + x2) oR c4.1 c4.2.1 (vp_in_iff.mpr ⟨by rw [ten h1]; omega, by rw [ten h1]; omega⟩)
      rw [tenN h1] at vb fa fb
      have rb0 : I b 1 = I m8 (10 + x2.toNatClampNeg) := (she _ hlt b vb).1
      obtain ⟨K, f1, f2⟩ := forgetF (x1 := x2) (I := I) (J := J) vww
      have hb : K b = I b := f2 b (ne_role kb kww (by decide))
      simp only [f1, vb, Option.getD_some, hb] at fa
      (obtain ⟨qa1, qa2, qa3, qa4⟩ := pairE fa; subst qa1 qa2 qa3 qa4)
      simp only [d8.2.2, Option.getD_some] at fb
      have q0 : u2 (u2 K b 1 0) mo 0 0 m8 = I m8 := by rw [u2_ne (ne_role d8.2.1 km (by decide)), u2_ne (ne_role d8.2.1 kb (by decide)), f2 m8 (ne_role d8.2.1 kww (by decide))]
      rw [q0] at fb
      (obtain ⟨qa1, qa2, qa3, qa4⟩ := pairE fb; subst qa1 qa2 qa3 qa4)
      exact ⟨fin _ b K hlt vb f2, rb0⟩
  · simp only [if_neg h1] at fa fb
    have e : ((-3 : Int32), (I, J, R)) = (ra, (I1, J1, R1)) := by
      by_cases h0 : x1 = 0
      · rw [if_pos h0] at fa; exact fa
      · rw [if_neg h0] at fa; exact fa
    (obtain ⟨qa1, qa2, qa3, qa4⟩ := pairE e; subst qa1 qa2 qa3 qa4)
    (obtain ⟨qa1, qa2, qa3, qa4⟩ := pairE fb; subst qa1 qa2 qa3 qa4)
    exact ⟨RM.sm (ms := [11 * 64]) rel0 oR (Sm.stI Sm.rf km (by decide)) rfl, rfl⟩
noncomputable def if_ok (p : Prop) : Int32 := @ite _ p (Classical.propDecidable _) (-2) (-3)
theorem if_ok_p {p : Prop} (h : p) : if_ok p = -2 := by unfold if_ok; rw [if_pos h]
theorem if_ok_n {p : Prop} (h : ¬ p) : if_ok p = -3 := by unfold if_ok; rw [if_neg h]
def workOk (x1 x3 x4 x5 : Int) : Prop := (0 ≤ x1 ∧ x1 ≤ 9) ∧ (0 ≤ x3 ∧ x3 ≤ 2) ∧ ((if x3 = 0 then -1 else 0) ≤ x4 ∧ x4 ≤ 2) ∧ (x3 = 0 → -1000 ≤ x5 ∧ x5 ≤ 1000)
set_option maxHeartbeats 4000000 in
theorem work10F {x sh b ma me : Nat} {x1 x2 x3 x4 x5 : Int32} {I : hI} {J : hJ} {R : hR} (vsh : R x 4 = some sh) (vb : R sh x1.toNatClampNeg = some b) (vma : R b 0 = some ma) (h : 0 ≤ (I b 1).toInt) (vme : (0 ≤ x2.toInt ∧ x2.toInt < (I b 1).toInt) → R ma x2.toNatClampNeg = some me) : F_X10_work x x1 x2 x3 x4 x5 I J R = @ite _ (workOk x1.toInt x3.toInt x4.toInt x5.toInt) (Classical.propDecidable _) (if 0 ≤ x2.toInt ∧ x2.toInt < (I b 1).toInt then (0, (u2 (u2 (u2 I me 4 x3) me 5 x4) me 6 x5, J, R)) else (-2, (I, J, R))) (-3, (I, J, R)) := by
  simp only [F_X10_work, nm, nmW, isW, ite1, cI0, cI9, cI2, cIm1000, cI1000, vsh, vb, vma, Option.getD_some, hasC h, e0, em1, setW]
  by_cases h2 : 0 ≤ x2.toInt ∧ x2.toInt < (I b 1).toInt
  · simp only [if_pos h2, vme h2, Option.getD_some]
    by_cases ok : workOk x1.toInt x3.toInt x4.toInt x5.toInt
    · rw [if_pos ok]
      unfold workOk at ok
      repeat' split
      all_goals first | rfl | (exfalso; omega)
    · rw [if_neg ok]
      unfold workOk at ok
      repeat' split
      all_goals first | rfl | (exfalso; omega)
  · simp only [if_neg h2]
    by_cases ok : workOk x1.toInt x3.toInt x4.toInt x5.toInt
    · rw [if_pos ok]
      unfold workOk at ok
      repeat' split
      all_goals first | rfl | (exfalso; omega)
    · rw [if_neg ok]
      unfold workOk at ok
      repeat' split
      all_goals first | rfl | (exfalso; omega)
set_option maxHeartbeats 4000000 in
theorem work11F {mo m8 w13 f14 u15 m : Nat} {x1 x2 x3 x4 x5 : Int32} {I : hI} {J : hJ} {R : hR} (v8 : R mo 8 = some m8) (v13 : R mo 13 = some w13) (v14 : R mo 14 = some f14) (v15 : R mo 15 = some u15) (ne : m8 ≠ mo) (h : 0 ≤ (I m8 x1.toNatClampNeg).toInt) (hm : (0 ≤ x1.toInt ∧ x1.toInt ≤ 9) → (0 ≤ x2.toInt ∧ x2.toInt < (I m8 x1.toNatClampNeg).toInt) → (6 * x1 + x2).toNatClampNeg = m) : F_X11_work mo x1 x2 x3 x4 x5 I J R = @ite _ (workOk x1.toInt x3.toInt x4.toInt x5.toInt) (Classical.propDecidable _) (if 0 ≤ x2.toInt ∧ x2.toInt < (I m8 x1.toNatClampNeg).toInt then (0, (u2 (u2 (u2 (u2 I mo 0 0) w13 m x3) f14 m x4) u15 m (if x3.toInt = 0 then x5 else 0), J, R)) else (-2, (u2 I mo 0 0, J, R))) (-3, (u2 I mo 0 0, J, R)) := by
  have hh := hasM (mo := mo) (s := x1) (x2 := x2) (I := u2 I mo 0 0) (J := J) (R := R) v8 (by rw [u2_ne ne]; exact h)
  rw [u2_ne ne] at hh
  simp only [F_X11_work, nm, inM, ite1, Int32.toInt_toInt64, cJ0, cJ9, cJ2, cJm1, cJm1000, cJ1000, hh, e0, v13, v14, v15, Option.getD_some]
  by_cases ok : workOk x1.toInt x3.toInt x4.toInt x5.toInt
  · rw [if_pos ok]
    have ok' := ok
    unfold workOk at ok
    by_cases h2 : 0 ≤ x2.toInt ∧ x2.toInt < (I m8 x1.toNatClampNeg).toInt
    · rw [hm ok'.1 h2]
      simp only [if_pos h2]
      repeat' split
      all_goals first | rfl | (exfalso; omega)
    · simp only [if_neg h2]
      repeat' split
      all_goals first | rfl | (exfalso; omega)
  · rw [if_neg ok]
    unfold workOk at ok
    repeat' split
    all_goals first | rfl | (exfalso; omega)
theorem s1_work {L : List Nat} {C : Nat → Nat} {x mo : Nat} {I I1 I2 : hI} {J J1 J2 : hJ} {R R1 R2 : hR} (uq : Uq L C) (mx : x ∈ L) (kx : C x = 10) (mm : mo ∈ L) (km : C mo = 11) (oI : OkI L C I) (oR : OkR L C R) (ow0 : Ow L C R) (rel : RM L C x mo (I, J, R)) {x1 : Int32} {x2 : Int32} {x3 : Int32} {x4 : Int32} {x5 : Int32} {ra rb : Int32} (fa : F_X10_work x x1 x2 x3 x4 x5 I J R = (ra, (I1, J1, R1))) (sa : Sm C ms_X10_work (I, J, R) (I1, J1, R1)) (oI1 : OkI L C I1) (oR1 : OkR L C R1) (fb : F_X11_work mo x1 x2 x3 x4 x5 I1 J1 R1 = (rb, (I2, J2, R2))) (sb : Sm C ms_X11_work (I1, J1, R1) (I2, J2, R2)) (oI2 : OkI L C I2) (oR2 : OkR L C R2) : RM L C x mo (I2, J2, R2) ∧ ra = rb := by
  have rel0 := rel
  obtain ⟨-, -, sh, m8, n9, y10, o11, e12, w13, f14, u15, t16, cel, she⟩ := rel
  have cel : CelM L C x mo R sh m8 n9 y10 o11 e12 w13 f14 u15 t16 := cel
  have she : ShEq I R sh m8 n9 y10 o11 e12 w13 f14 u15 t16 := she
  have cel0 := cel
  obtain ⟨c4, d8, d9, d10, d11, d12, d13, d14, d15, d16⟩ := cel
  have ar : ∀ c ∈ L, C c = 5 → 0 ≤ (I c 2).toInt ∧ (I c 2).toInt ≤ 4 := fun c hc kc => rf_5_2 oI hc kc
  have same : ∀ {r : Int32}, (r, (I, J, R)) = (ra, (I1, J1, R1)) → (r, (u2 I1 mo 0 0, J1, R1)) = (rb, (I2, J2, R2)) → RM L C x mo (I2, J2, R2) ∧ ra = rb := fun h1 h2 => by
    (obtain ⟨qa1, qa2, qa3, qa4⟩ := pairE h1; subst qa1 qa2 qa3 qa4)
    (obtain ⟨qa1, qa2, qa3, qa4⟩ := pairE h2; subst qa1 qa2 qa3 qa4)
    exact ⟨RM.sm (ms := [11 * 64]) rel0 oR (Sm.stI Sm.rf km (by decide)) rfl, rfl⟩
  by_cases h1 : 0 ≤ x1.toInt ∧ x1.toInt ≤ 9
  · have hlt : x1.toNatClampNeg < 20 := by have := nine h1; omega
    obtain ⟨b, mb, vb, kb⟩ := rr_57 (i := x1) oR c4.1 c4.2.1 (vp_in_iff.mpr ⟨by omega, by omega⟩)
    obtain ⟨q1, q2⟩ := she x1.toNatClampNeg hlt b vb
    have q1 : I b 1 = I m8 x1.toNatClampNeg := q1
    have rg := rf_7_1 oI mb kb
    obtain ⟨ma, mma, vma, kma⟩ := rf_7_0 oR mb kb
    have hn1 := nat_of h1.1
    have im : ∀ z : Int, z = (I b 1).toInt → (0 ≤ x2.toInt ∧ x2.toInt < z) → (6 * x1 + x2).toNatClampNeg = 6 * x1.toNatClampNeg + x2.toNatClampNeg := fun z hz h => by
      have hn2 := nat_of h.1
      have := rg.2
      exact clamp_toInt (by rw [iadd (imul (x := 6) cI6 hn1.symm (by omega) (by omega)) hn2.symm (by omega) (by omega)]; omega)
    by_cases h2 : 0 ≤ x2.toInt ∧ x2.toInt < (I b 1).toInt
    · have hn2 := nat_of h2.1
      have hj6 : x2.toNatClampNeg < 6 := by have := rg.2; omega
      obtain ⟨me, mme, vme, kme⟩ := rr_56 (i := x2) oR mma kma (vp_in_iff.mpr ⟨h2.1, by have := rg.2; omega⟩)
      obtain ⟨so, mso, vso, kso⟩ := rf_5_3 oR mme kme
      obtain ⟨fac, mfa, vfa, kfa⟩ := rf_5_7 oR mme kme
      have mq := q2 x2.toNatClampNeg hj6 (by show ((x2.toNatClampNeg : Nat) : Int) < (I b 1).toInt; omega) ma me so fac vma vme vso vfa
      rw [work10F (x3 := x3) (x4 := x4) (x5 := x5) (J := J) c4.2.2 vb vma rg.1 (fun _ => vme)] at fa
      by_cases ok : workOk x1.toInt x3.toInt x4.toInt x5.toInt
      · rw [if_pos ok, if_pos h2] at fa
        (obtain ⟨qa1, qa2, qa3, qa4⟩ := pairE fa; subst qa1 qa2 qa3 qa4)
        obtain ⟨K, hK⟩ : ∃ K, K = u2 (u2 (u2 I me 4 x3) me 5 x4) me 6 x5 := ⟨_, rfl⟩
        rw [← hK] at fb
        have kf : ∀ c r, C c = r → r ≠ 5 → K c = I c := fun c r h z => by rw [hK, u2_ne (ne_role h kme z), u2_ne (ne_role h kme z), u2_ne (ne_role h kme z)]
        have k8 : K m8 x1.toNatClampNeg = I b 1 := by rw [kf m8 70 d8.2.1 (by decide)]; exact q1.symm
        rw [work11F (m := 6 * x1.toNatClampNeg + x2.toNatClampNeg) (x3 := x3) (x4 := x4) (x5 := x5) (I := K) (J := J) d8.2.2 d13.2.2 d14.2.2 d15.2.2 (ne_role d8.2.1 km (by decide)) (by rw [k8]; exact rg.1) (fun _ h => im _ (by rw [k8]) h), if_pos ok, k8, if_pos h2] at fb
        (obtain ⟨qa1, qa2, qa3, qa4⟩ := pairE fb; subst qa1 qa2 qa3 qa4)
        obtain ⟨m, hmm⟩ : ∃ m, m = 6 * x1.toNatClampNeg + x2.toNatClampNeg := ⟨_, rfl⟩
        rw [← hmm] at mq
        have fr : ∀ c r, C c = r → r ≠ 75 → r ≠ 76 → r ≠ 77 → r ≠ 11 → u2 (u2 (u2 (u2 K mo 0 0) w13 (6 * x1.toNatClampNeg + x2.toNatClampNeg) x3) f14 (6 * x1.toNatClampNeg + x2.toNatClampNeg) x4) u15 (6 * x1.toNatClampNeg + x2.toNatClampNeg) (if x3.toInt = 0 then x5 else 0) c = K c := fun c r h z1 z2 z3 z4 => by rw [u2_ne (ne_role h d15.2.1 z3), u2_ne (ne_role h d14.2.1 z2), u2_ne (ne_role h d13.2.1 z1), u2_ne (ne_role h km z4)]
        have fi : ∀ c r, C c = r → r ≠ 75 → r ≠ 76 → r ≠ 77 → r ≠ 11 → r ≠ 5 → u2 (u2 (u2 (u2 K mo 0 0) w13 (6 * x1.toNatClampNeg + x2.toNatClampNeg) x3) f14 (6 * x1.toNatClampNeg + x2.toNatClampNeg) x4) u15 (6 * x1.toNatClampNeg + x2.toNatClampNeg) (if x3.toInt = 0 then x5 else 0) c = I c := fun c r h z1 z2 z3 z4 z5 => by rw [fr c r h z1 z2 z3 z4, kf c r h z5]
        obtain ⟨W, hW⟩ : ∃ W, W = u2 (u2 (u2 (u2 K mo 0 0) w13 (6 * x1.toNatClampNeg + x2.toNatClampNeg) x3) f14 (6 * x1.toNatClampNeg + x2.toNatClampNeg) x4) u15 (6 * x1.toNatClampNeg + x2.toNatClampNeg) (if x3.toInt = 0 then x5 else 0) := ⟨_, rfl⟩
        have w1 : W w13 = up (I w13) m x3 := by rw [hW, u2_ne (ne_role d13.2.1 d15.2.1 (by decide)), u2_ne (ne_role d13.2.1 d14.2.1 (by decide)), u2_up, u2_ne (ne_role d13.2.1 km (by decide)), kf w13 75 d13.2.1 (by decide), hmm]
        have w2 : W f14 = up (I f14) m x4 := by rw [hW, u2_ne (ne_role d14.2.1 d15.2.1 (by decide)), u2_up, u2_ne (ne_role d14.2.1 d13.2.1 (by decide)), u2_ne (ne_role d14.2.1 km (by decide)), kf f14 76 d14.2.1 (by decide), hmm]
        have w3 : W u15 = up (I u15) m (if x3.toInt = 0 then x5 else 0) := by rw [hW, u2_up, u2_ne (ne_role d15.2.1 d14.2.1 (by decide)), u2_ne (ne_role d15.2.1 d13.2.1 (by decide)), u2_ne (ne_role d15.2.1 km (by decide)), kf u15 77 d15.2.1 (by decide), hmm]
        rw [← hW] at fr fi
        rw [← hW]
        refine ⟨⟨kx, km, sh, m8, n9, y10, o11, e12, w13, f14, u15, t16, cel0, ?_⟩, rfl⟩
        refine ShEq.upd (I := I) (I2 := W) (z := I b 1) (j0 := x2.toNatClampNeg) (s0 := x1.toNatClampNeg) she ow0 oR c4.1 c4.2.1 hlt hj6 vb vma vme vso vfa (congrFun (fi b 7 kb (by decide) (by decide) (by decide) (by decide) (by decide)) 1) (fun b' kb' _ => congrFun (fi b' 7 kb' (by decide) (by decide) (by decide) (by decide) (by decide)) 1) (by rw [fi m8 70 d8.2.1 (by decide) (by decide) (by decide) (by decide) (by decide)]; exact q1.symm) (fun q _ => congrFun (fi m8 70 d8.2.1 (by decide) (by decide) (by decide) (by decide) (by decide)) q) (fun j h _ => h) (fun c kc hc => ?_) (fun c kc _ => fi c 54 kc (by decide) (by decide) (by decide) (by decide) (by decide)) (fun c kc _ => fi c 55 kc (by decide) (by decide) (by decide) (by decide) (by decide)) (fun q hq => ?_) (fun q hq => ?_) (fun c hc kc => (ar c hc kc).2) (fun _ => ?_)
        · rw [fr c 5 kc (by decide) (by decide) (by decide) (by decide), hK, u2_ne hc, u2_ne hc, u2_ne hc]
        · rw [← hmm] at hq
          rw [fi n9 71 d9.2.1 (by decide) (by decide) (by decide) (by decide) (by decide), fi y10 72 d10.2.1 (by decide) (by decide) (by decide) (by decide) (by decide), fi e12 74 d12.2.1 (by decide) (by decide) (by decide) (by decide) (by decide), w1, w2, w3, up_ne hq, up_ne hq, up_ne hq]
          exact ⟨rfl, rfl, rfl, rfl, rfl, rfl⟩
        · rw [fi o11 73 d11.2.1 (by decide) (by decide) (by decide) (by decide) (by decide), fi t16 78 d16.2.1 (by decide) (by decide) (by decide) (by decide) (by decide)]
          exact ⟨rfl, rfl⟩
        · rw [← hmm]
          obtain ⟨t1, t2, t3, t4, t5, t6, t7, t8⟩ := mq
          have km_ := fr me 5 kme (by decide) (by decide) (by decide) (by decide)
          unfold MemEq
          rw [fi so 54 kso (by decide) (by decide) (by decide) (by decide) (by decide), fi fac 55 kfa (by decide) (by decide) (by decide) (by decide) (by decide), fi n9 71 d9.2.1 (by decide) (by decide) (by decide) (by decide) (by decide), fi y10 72 d10.2.1 (by decide) (by decide) (by decide) (by decide) (by decide), fi o11 73 d11.2.1 (by decide) (by decide) (by decide) (by decide) (by decide), fi e12 74 d12.2.1 (by decide) (by decide) (by decide) (by decide) (by decide), fi t16 78 d16.2.1 (by decide) (by decide) (by decide) (by decide) (by decide), km_, w1, w2, w3, up_at, up_at, up_at, hK]
          have g : ∀ k, k ≠ 4 → k ≠ 5 → k ≠ 6 → u2 (u2 (u2 I me 4 x3) me 5 x4) me 6 x5 me k = I me k := fun k z1 z2 z3 => by rw [u2_nk z3, u2_nk z2, u2_nk z1]
          rw [g 0 (by decide) (by decide) (by decide), g 1 (by decide) (by decide) (by decide), g 2 (by decide) (by decide) (by decide)]
          refine ⟨t1, t2, t3, t4, ?_, ?_, fun h => ?_, t8⟩
          · rw [u2_nk (by decide), u2_nk (by decide), u2_at]
          · rw [u2_nk (by decide), u2_at]
          · rw [u2_nk (by decide), u2_nk (by decide), u2_at] at h
            rw [u2_at, if_pos (by rw [h]; decide)]
      · rw [if_neg ok] at fa
        have hR : R1 = R := (pairE fa).2.2.2.symm
        have hI : I1 = I := (pairE fa).2.1.symm
        have hJ : J1 = J := (pairE fa).2.2.1.symm
        subst hR hI hJ
        rw [work11F (m := 6 * x1.toNatClampNeg + x2.toNatClampNeg) (x3 := x3) (x4 := x4) (x5 := x5) d8.2.2 d13.2.2 d14.2.2 d15.2.2 (ne_role d8.2.1 km (by decide)) (by rw [← q1]; exact rg.1) (fun _ h => im _ (by rw [q1]) h), if_neg ok] at fb
        exact same fa fb
    · rw [work10F (me := 0) (x3 := x3) (x4 := x4) (x5 := x5) (J := J) c4.2.2 vb vma rg.1 (fun h => absurd h h2)] at fa
      have fa2 : ∃ r : Int32, (r = if_ok (workOk x1.toInt x3.toInt x4.toInt x5.toInt)) ∧ (r, (I, J, R)) = (ra, (I1, J1, R1)) := by
        by_cases ok : workOk x1.toInt x3.toInt x4.toInt x5.toInt
        · rw [if_pos ok, if_neg h2] at fa
          exact ⟨_, (if_ok_p ok).symm, fa⟩
        · rw [if_neg ok] at fa
          exact ⟨_, (if_ok_n ok).symm, fa⟩
      obtain ⟨r, hr, fa⟩ := fa2
      have hR : R1 = R := (pairE fa).2.2.2.symm
      have hI : I1 = I := (pairE fa).2.1.symm
      have hJ : J1 = J := (pairE fa).2.2.1.symm
      subst hR hI hJ
      rw [work11F (m := 6 * x1.toNatClampNeg + x2.toNatClampNeg) (x3 := x3) (x4 := x4) (x5 := x5) d8.2.2 d13.2.2 d14.2.2 d15.2.2 (ne_role d8.2.1 km (by decide)) (by rw [← q1]; exact rg.1) (fun _ h => im _ (by rw [q1]) h), ← q1, if_neg h2] at fb
      refine same fa ?_
      rw [← fb, hr]
      by_cases ok : workOk x1.toInt x3.toInt x4.toInt x5.toInt
      · rw [if_pos ok, if_ok_p ok]
      · rw [if_neg ok, if_ok_n ok]
  · simp only [F_X10_work, nm, isW, ite1, cI0, cI9] at fa
    rw [if_neg h1] at fa
    simp only [F_X11_work, nm, inM, ite1, Int32.toInt_toInt64, cJ0, cJ9] at fb
    rw [if_neg h1] at fb
    exact same fa fb
theorem s1_times {L : List Nat} {C : Nat → Nat} {x mo : Nat} {I I1 I2 : hI} {J J1 J2 : hJ} {R R1 R2 : hR} (uq : Uq L C) (mx : x ∈ L) (kx : C x = 10) (mm : mo ∈ L) (km : C mo = 11) (oI : OkI L C I) (oR : OkR L C R) (ow0 : Ow L C R) (rel : RM L C x mo (I, J, R)) {x1 : Int32} {x2 : Int32} {x3 : Int32} {x4 : Int32} {ra rb : Int32} (fa : F_X10_times x x1 x2 x3 x4 I J R = (ra, (I1, J1, R1))) (sa : Sm C ms_X10_times (I, J, R) (I1, J1, R1)) (oI1 : OkI L C I1) (oR1 : OkR L C R1) (fb : F_X11_times mo x1 x2 x3 x4 I1 J1 R1 = (rb, (I2, J2, R2))) (sb : Sm C ms_X11_times (I1, J1, R1) (I2, J2, R2)) (oI2 : OkI L C I2) (oR2 : OkR L C R2) : RM L C x mo (I2, J2, R2) ∧ ra = rb := by
  have rel0 := rel
  obtain ⟨-, -, sh, m8, n9, y10, o11, e12, w13, f14, u15, t16, cel, she⟩ := rel
  have cel : CelM L C x mo R sh m8 n9 y10 o11 e12 w13 f14 u15 t16 := cel
  have she : ShEq I R sh m8 n9 y10 o11 e12 w13 f14 u15 t16 := she
  have cel0 := cel
  obtain ⟨c4, d8, d9, d10, d11, d12, d13, d14, d15, d16⟩ := cel
  have ar : ∀ c ∈ L, C c = 5 → 0 ≤ (I c 2).toInt ∧ (I c 2).toInt ≤ 4 := fun c hc kc => rf_5_2 oI hc kc
  have same : ∀ {r : Int32}, (r, (I, J, R)) = (ra, (I1, J1, R1)) → (r, (u2 I1 mo 0 0, J1, R1)) = (rb, (I2, J2, R2)) → RM L C x mo (I2, J2, R2) ∧ ra = rb := fun h1 h2 => by
    (obtain ⟨qa1, qa2, qa3, qa4⟩ := pairE h1; subst qa1 qa2 qa3 qa4)
    (obtain ⟨qa1, qa2, qa3, qa4⟩ := pairE h2; subst qa1 qa2 qa3 qa4)
    exact ⟨RM.sm (ms := [11 * 64]) rel0 oR (Sm.stI Sm.rf km (by decide)) rfl, rfl⟩
  by_cases h1 : 0 ≤ x1.toInt ∧ x1.toInt ≤ 9
  · have hlt : x1.toNatClampNeg < 20 := by have := nine h1; omega
    obtain ⟨b, mb, vb, kb⟩ := rr_57 (i := x1) oR c4.1 c4.2.1 (vp_in_iff.mpr ⟨by omega, by omega⟩)
    obtain ⟨q1, q2⟩ := she x1.toNatClampNeg hlt b vb
    have q1 : I b 1 = I m8 x1.toNatClampNeg := q1
    have rg := rf_7_1 oI mb kb
    simp only [F_X10_times, nm, isW, ite1, cI0, cI9, cIm1000, cI1000, c4.2.2, vb, Option.getD_some, hasC rg.1] at fa
    rw [if_pos h1] at fa
    simp only [F_X11_times, F_X11_times_74, nm, inM, ite1, Int32.toInt_toInt64, cJ0, cJ9, cJm1000, cJ1000] at fb
    rw [if_pos h1] at fb
    have hm : ∀ {K : hI}, K m8 = I m8 → F_X11_isMember mo x1 x2 (u2 K mo 0 0) J R = if 0 ≤ x2.toInt ∧ x2.toInt < (I b 1).toInt then 1 else 0 := fun {K} hK => by
      have h9 : u2 K mo 0 0 m8 x1.toNatClampNeg = I b 1 := by rw [u2_ne (ne_role d8.2.1 km (by decide)), hK, q1]
      rw [hasM d8.2.2 (by rw [h9]; exact rg.1), h9]
    by_cases h2 : 0 ≤ x2.toInt ∧ x2.toInt < (I b 1).toInt
    · have h26 : x2.toInt < 6 := by have := rg.2; omega
      obtain ⟨ma, mma, vma, kma⟩ := rf_7_0 oR mb kb
      obtain ⟨me, mme, vme, kme⟩ := rr_56 (i := x2) oR mma kma (vp_in_iff.mpr ⟨h2.1, by omega⟩)
      obtain ⟨so, mso, vso, kso⟩ := rf_5_3 oR mme kme
      obtain ⟨fac, mfa, vfa, kfa⟩ := rf_5_7 oR mme kme
      have hn2 := nat_of h2.1
      have hj6 : x2.toNatClampNeg < 6 := by omega
      have mq := q2 x2.toNatClampNeg hj6 (by show ((x2.toNatClampNeg : Nat) : Int) < (I b 1).toInt; omega) ma me so fac vma vme vso vfa
      obtain ⟨m, hmm⟩ : ∃ m, m = 6 * x1.toNatClampNeg + x2.toNatClampNeg := ⟨_, rfl⟩
      rw [← hmm] at mq
      have hn1 := nat_of h1.1
      have am := ar me mme kme
      rw [if_pos h2] at fa
      simp only [vma, vme, vfa, Option.getD_some] at fa
      have s1 : (I me 2 - 1).toInt = (I me 2).toInt - 1 := sub1 (b := 0) am.1 (by omega)
      rw [s1] at fa
      have y13 : (6 * x1 + x2).toInt = ((m : Nat) : Int) := by rw [iadd (imul (x := 6) cI6 hn1.symm (by omega) (by omega)) hn2.symm (by omega) (by omega), hmm]; omega
      have ey : ∀ {K : hI}, K y10 = I y10 → u2 K mo 0 0 y10 m = I me 2 := fun hK => by rw [u2_ne (ne_role d10.2.1 km (by decide)), hK]; exact mq.2.2.1.symm
      by_cases h3 : 0 ≤ x3.toInt ∧ x3.toInt ≤ (I me 2).toInt - 1
      · rw [if_pos h3] at fa
        by_cases h4 : -1000 ≤ x4.toInt ∧ x4.toInt ≤ 1000
        · rw [if_pos h4] at fa
          (obtain ⟨qa1, qa2, qa3, qa4⟩ := pairE fa; subst qa1 qa2 qa3 qa4)
          have k8 : u2 I fac x3.toNatClampNeg x4 m8 = I m8 := u2_ne (ne_role d8.2.1 kfa (by decide))
          have k10 : u2 I fac x3.toNatClampNeg x4 y10 = I y10 := u2_ne (ne_role d10.2.1 kfa (by decide))
          have k16 : u2 I fac x3.toNatClampNeg x4 t16 = I t16 := u2_ne (ne_role d16.2.1 kfa (by decide))
          rw [hm k8, if_pos h2] at fb
          simp only [d10.2.2, d16.2.2, Option.getD_some, clamp_toInt y13] at fb
          rw [ey k10, s1, if_pos h3, if_pos h4] at fb
          have hn3 := nat_of h3.1
          have i33 : (4 * (6 * x1 + x2) + x3).toNatClampNeg = 4 * m + x3.toNatClampNeg := clamp_toInt (by rw [iadd (imul (x := 4) cI4 y13 (by omega) (by omega)) hn3.symm (by omega) (by omega)]; omega)
          rw [i33] at fb
          (obtain ⟨qa1, qa2, qa3, qa4⟩ := pairE fb; subst qa1 qa2 qa3 qa4)
          have x34 : x3.toNatClampNeg < 4 := by omega
          have fr : ∀ c r, C c = r → r ≠ 78 → r ≠ 11 → r ≠ 55 → u2 (u2 (u2 I fac x3.toNatClampNeg x4) mo 0 0) t16 (4 * m + x3.toNatClampNeg) x4 c = I c := fun c r h z1 z2 z3 => by rw [u2_ne (ne_role h d16.2.1 z1), u2_ne (ne_role h km z2), u2_ne (ne_role h kfa z3)]
          have k16' : u2 (u2 I fac x3.toNatClampNeg x4) mo 0 0 t16 = I t16 := by rw [u2_ne (ne_role d16.2.1 km (by decide)), k16]
          refine ⟨⟨kx, km, sh, m8, n9, y10, o11, e12, w13, f14, u15, t16, cel0, ?_⟩, ?_⟩
          · refine ShEq.upd (I := I) (I2 := u2 (u2 (u2 I fac x3.toNatClampNeg x4) mo 0 0) t16 (4 * m + x3.toNatClampNeg) x4) (z := I b 1) (j0 := x2.toNatClampNeg) (s0 := x1.toNatClampNeg) she ow0 oR c4.1 c4.2.1 hlt hj6 vb vma vme vso vfa (congrFun (fr b 7 kb (by decide) (by decide) (by decide)) 1) (fun b' kb' _ => congrFun (fr b' 7 kb' (by decide) (by decide) (by decide)) 1) (by rw [fr m8 70 d8.2.1 (by decide) (by decide) (by decide)]; exact q1.symm) (fun q _ => congrFun (fr m8 70 d8.2.1 (by decide) (by decide) (by decide)) q) (fun j h _ => h) (fun c kc _ => fr c 5 kc (by decide) (by decide) (by decide)) (fun c kc _ => fr c 54 kc (by decide) (by decide) (by decide)) (fun c kc hc => ?_) (fun q _ => ?_) (fun q hq => ?_) ?_ (fun _ => ?_)
            · rw [u2_ne (ne_role kc d16.2.1 (by decide)), u2_ne (ne_role kc km (by decide)), u2_ne hc]
            · rw [fr n9 71 d9.2.1 (by decide) (by decide) (by decide), fr y10 72 d10.2.1 (by decide) (by decide) (by decide), fr e12 74 d12.2.1 (by decide) (by decide) (by decide), fr w13 75 d13.2.1 (by decide) (by decide) (by decide), fr f14 76 d14.2.1 (by decide) (by decide) (by decide), fr u15 77 d15.2.1 (by decide) (by decide) (by decide)]
              exact ⟨rfl, rfl, rfl, rfl, rfl, rfl⟩
            · rw [← hmm] at hq
              rw [fr o11 73 d11.2.1 (by decide) (by decide) (by decide), u2_nk (by omega), k16']
              exact ⟨rfl, rfl⟩
            · exact fun c hc kc => (ar c hc kc).2
            · rw [← hmm]
              obtain ⟨t1, t2, t3, t4, t5, t6, t7, t8⟩ := mq
              unfold MemEq
              rw [fr me 5 kme (by decide) (by decide) (by decide), fr so 54 kso (by decide) (by decide) (by decide), fr n9 71 d9.2.1 (by decide) (by decide) (by decide), fr y10 72 d10.2.1 (by decide) (by decide) (by decide), fr o11 73 d11.2.1 (by decide) (by decide) (by decide), fr e12 74 d12.2.1 (by decide) (by decide) (by decide), fr w13 75 d13.2.1 (by decide) (by decide) (by decide), fr f14 76 d14.2.1 (by decide) (by decide) (by decide), fr u15 77 d15.2.1 (by decide) (by decide) (by decide)]
              refine ⟨t1, t2, t3, t4, t5, t6, t7, fun i hi => ?_⟩
              rw [u2_ne (ne_role kfa d16.2.1 (by decide)), u2_ne (ne_role kfa km (by decide))]
              by_cases z : i = x3.toNatClampNeg
              · rw [z, u2_at, u2_at]
              · rw [u2_nk z, u2_nk (by omega), k16']
                exact t8 i hi
          · rw [k16']
            exact mq.2.2.2.2.2.2.2 _ x34
        · rw [if_neg h4] at fa
          have hR : R1 = R := (pairE fa).2.2.2.symm
          have hI : I1 = I := (pairE fa).2.1.symm
          have hJ : J1 = J := (pairE fa).2.2.1.symm
          subst hR hI hJ
          rw [hm rfl, if_pos h2] at fb
          simp only [d10.2.2, Option.getD_some, clamp_toInt y13] at fb
          rw [ey rfl, s1, if_pos h3, if_neg h4] at fb
          exact same fa fb
      · rw [if_neg h3] at fa
        have hR : R1 = R := (pairE fa).2.2.2.symm
        have hI : I1 = I := (pairE fa).2.1.symm
        have hJ : J1 = J := (pairE fa).2.2.1.symm
        subst hR hI hJ
        rw [hm rfl, if_pos h2] at fb
        simp only [d10.2.2, Option.getD_some, clamp_toInt y13] at fb
        rw [ey rfl, s1, if_neg h3] at fb
        exact same fa fb
    · rw [if_neg h2] at fa
      have hR : R1 = R := (pairE fa).2.2.2.symm
      have hI : I1 = I := (pairE fa).2.1.symm
      have hJ : J1 = J := (pairE fa).2.2.1.symm
      subst hR hI hJ
      rw [hm rfl, if_neg h2] at fb
      exact same fa fb
  · simp only [F_X10_times, nm, isW, ite1, cI0, cI9] at fa
    rw [if_neg h1] at fa
    simp only [F_X11_times, nm, inM, ite1, Int32.toInt_toInt64, cJ0, cJ9] at fb
    rw [if_neg h1] at fb
    exact same fa fb
