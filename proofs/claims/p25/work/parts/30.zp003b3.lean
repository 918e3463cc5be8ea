/-! sizes of the shapes, in the class and in the model -/
theorem shapeAt {L : List Nat} {C : Nat → Nat} {R : hR} {sh k b : Nat} (oR : OkR L C R) (hsh : sh ∈ L) (csh : C sh = 57) (hk : k < 20) (hb : R sh k = some b) : b ∈ L ∧ C b = 7 := by
  obtain ⟨b1, h1, h2, h3⟩ := oR sh hsh k (by rw [csh]; exact hk) (by rw [csh]; exact fun q => absurd (show (8 : Nat) = 0 from q) (by decide))
  rw [csh] at h3
  rw [h2] at hb
  cases hb
  exact ⟨h1, Nat.succ.inj h3⟩
theorem ow57 {i : Nat} (h : i < 20) : ow 57 i = true := by simp [ow, Nat.blt_eq]; exact h
def RS (L : List Nat) (C : Nat → Nat) (x mo : Nat) (u : hU) : Prop := ∀ sh ∈ L, C sh = 57 → ∀ mm ∈ L, C mm = 70 → ∀ s, s < 20 → ∀ b, u.2.2 sh s = some b → u.1 b 1 = u.1 mm s
theorem RS.sm {L : List Nat} {C : Nat → Nat} {x mo : Nat} {ms : List Nat} {u v : hU} (rel : RS L C x mo u) (oR : OkR L C v.2.2) (s : Sm C ms u v) (hm : [57 * 64, 7 * 64 + 1, 70 * 64].all (fun z => !ms.contains z) = true) : RS L C x mo v := by
  intro sh hsh csh mm hmm cmm k hk b hb
  simp only [List.all_cons, List.all_nil, Bool.and_true, Bool.and_eq_true, Bool.not_eq_true'] at hm
  have e1 := (s sh k (by rw [csh]; exact nm_arr (by decide) hm.1)).2.2
  have e2 := (s mm k (by rw [cmm]; exact nm_arr (by decide) hm.2.2)).1
  have e3 := (s b 1 (by rw [(shapeAt oR hsh csh hk hb).2]; exact nm_obj hm.2.1)).1
  rw [e2, e3]
  exact rel sh hsh csh mm hmm cmm k hk b (by rw [← e1]; exact hb)
theorem RS.init {L : List Nat} {C : Nat → Nat} {x mo : Nat} {I : hI} {J : hJ} {R : hR} (z0 : Z0 L C I J) (oR : OkR L C R) : RS L C x mo (I, J, R) := by
  intro sh hsh csh mm hmm cmm k hk b hb
  obtain ⟨mb, cb⟩ := shapeAt oR hsh csh hk hb
  show I b 1 = I mm k
  rw [z0.1 b mb 1 (by rw [cb]; rfl), z0.1 mm hmm k (by rw [cmm]; rfl)]
theorem RS.grow {L : List Nat} {C : Nat → Nat} {x mo sh mm s0 b : Nat} {z : Int32} {I I1 I2 : hI} {J J2 : hJ} {R : hR} (uq : Uq L C) (ow0 : Ow L C R) (oR : OkR L C R) (rel : RS L C x mo (I, J, R)) (msh : sh ∈ L) (ksh : C sh = 57) (mmm : mm ∈ L) (kmm : C mm = 70) (hs : s0 < 20) (hb : R sh s0 = some b)
    (a1 : I1 b 1 = z) (a2 : ∀ c, C c = 7 → c ≠ b → I1 c 1 = I c 1) (a3 : I1 mm = I mm) (b1 : ∀ c, C c = 7 → I2 c 1 = I1 c 1) (b2 : I2 mm = up (I1 mm) s0 z) : RS L C x mo (I2, J2, R) := by
  intro sh1 h1 c1 mm1 h2 c2 k hk d hd
  obtain rfl : sh1 = sh := uq _ h1 _ msh (c1.trans ksh.symm) (by rw [c1]; rfl)
  obtain rfl : mm1 = mm := uq _ h2 _ mmm (c2.trans kmm.symm) (by rw [c2]; rfl)
  obtain ⟨md, cd⟩ := shapeAt oR h1 c1 hk hd
  show I2 d 1 = I2 mm1 k
  rw [b1 d cd, b2]
  unfold up
  by_cases e : k = s0
  · subst e
    rw [if_pos rfl]
    have : d = b := Option.some.inj (hd.symm.trans hb)
    rw [this, a1]
  · rw [if_neg e, a3]
    have ne : d ≠ b := fun q => e (ow0 sh1 h1 sh1 h1 k s0 d rfl (by rw [c1]; exact ow57 hk) (by rw [c1]; exact ow57 hs) hd (by rw [q]; exact hb)).2
    rw [a2 d cd ne]
    exact rel sh1 h1 c1 mm1 h2 c2 k hk d hd
/-- one member more, in a shape of the class -/
theorem add7c {L : List Nat} {C : Nat → Nat} {b : Nat} {x1 x2 : Int32} {I : hI} {J : hJ} {R : hR} (oR : OkR L C R) (mb : b ∈ L) (kb : C b = 7) (h0 : 0 ≤ (I b 1).toInt) (h1 : (I b 1).toInt < 6) :
    ∃ I1, F_X7_add b x1 x2 I J R = (I b 1, (I1, J, R)) ∧ I1 b 1 = I b 1 + 1 ∧ (∀ c, C c = 7 → c ≠ b → I1 c 1 = I c 1) ∧ (∀ c, C c ≠ 7 → C c ≠ 5 → C c ≠ 54 → C c ≠ 55 → I1 c = I c) := by
  obtain ⟨ma, mma, vma, kma⟩ := rf_7_0 oR mb kb
  obtain ⟨me, mme, vme, kme⟩ := rr_56 (i := I b 1) oR mma kma (vp_in_iff.mpr ⟨h0, h1⟩)
  obtain ⟨so, mso, vso, kso⟩ := rf_5_3 oR mme kme
  obtain ⟨fa, mfa, vfa, kfa⟩ := rf_5_7 oR mme kme
  obtain ⟨I1, e1, e2, e3⟩ := add7 (x1 := x1) (x2 := x2) (J := J) vma vme vso vfa (by omega)
  refine ⟨I1, e1, e2, fun c kc hc => ?_, fun c h7 h5 h54 h55 => e3 c (fun e => h7 (by rw [e, kb])) (fun e => h5 (by rw [e, kme])) (fun e => h54 (by rw [e, kso])) (fun e => h55 (by rw [e, kfa]))⟩
  rw [e3 c hc (ne_role kc kme (by decide)) (ne_role kc kso (by decide)) (ne_role kc kfa (by decide))]
def askOk (x1 x2 x3 : Int32) : Prop := (0 ≤ x1.toInt ∧ x1.toInt ≤ 9) ∧ (0 ≤ x2.toInt ∧ x2.toInt ≤ 99) ∧ sortsOk x3.toInt
theorem ten {x : Int32} (h : 0 ≤ x.toInt ∧ x.toInt ≤ 9) : ((10 : Int32) + x).toInt = 10 + x.toInt := by
  have := (Rg_add (x := 10) (y := x) (a := 10) (b := 10) (c := 0) (d := 9) (a' := 10) (b' := 19) ⟨by decide, by decide⟩ h ⟨⟨by omega, by omega⟩, by omega, by omega⟩).1
  rw [this, cI10]
theorem tenN {x : Int32} (h : 0 ≤ x.toInt ∧ x.toInt ≤ 9) : ((10 : Int32) + x).toNatClampNeg = 10 + x.toNatClampNeg := by
  show ((10 : Int32) + x).toInt.toNat = 10 + x.toInt.toNat
  rw [ten h]; omega
theorem nine {x : Int32} (h : 0 ≤ x.toInt ∧ x.toInt ≤ 9) : x.toNatClampNeg < 10 := by
  show x.toInt.toNat < 10
  omega
theorem lt6 {x : Int32} : (x < 6) = (x.toInt < 6) := by rw [Int32.lt_iff_toInt_lt, cI6]
theorem offer10 {L : List Nat} {C : Nat → Nat} {x sh b : Nat} {x1 x2 x3 : Int32} {I : hI} {J : hJ} {R : hR} (oI : OkI L C I) (oR : OkR L C R) (msh : sh ∈ L) (ksh : C sh = 57) (vsh : R x 4 = some sh) (hb : (0 ≤ x1.toInt ∧ x1.toInt ≤ 9) → R sh x1.toNatClampNeg = some b) :
    (¬ askOk x1 x2 x3 → F_X10_offer x x1 x2 x3 I J R = (-3, (I, J, R))) ∧ (askOk x1 x2 x3 → ¬ (I b 1).toInt < 6 → F_X10_offer x x1 x2 x3 I J R = (-5, (I, J, R))) ∧
      (askOk x1 x2 x3 → (I b 1).toInt < 6 → ∃ I1, F_X10_offer x x1 x2 x3 I J R = (I b 1, (I1, J, R)) ∧ I1 b 1 = I b 1 + 1 ∧ (∀ c, C c = 7 → c ≠ b → I1 c 1 = I c 1) ∧ (∀ c, C c = 70 → I1 c = I c)) := by
  simp only [F_X10_offer, F_X10_isName, nm, nmU, isW, ite1, areS, cI0, cI9, cI99, vsh, Option.getD_some, lt6]
  by_cases h1 : 0 ≤ x1.toInt ∧ x1.toInt ≤ 9
  · simp only [if_pos h1]
    by_cases h2 : 0 ≤ x2.toInt ∧ x2.toInt ≤ 99
    · simp only [if_pos h2]
      by_cases h3 : sortsOk x3.toInt
      · simp only [if_pos h3, hb h1, Option.getD_some]
        refine ⟨fun h => absurd ⟨h1, h2, h3⟩ h, fun _ h => by rw [if_neg h], fun _ h => ?_⟩
        obtain ⟨mb, kb⟩ := shapeAt oR msh ksh (by have := nine h1; omega) (hb h1)
        obtain ⟨I1, e1, e2, e3, e4⟩ := add7c (x1 := x2) (x2 := x3) (J := J) oR mb kb (rf_7_1 oI mb kb).1 h
        exact ⟨I1, by rw [if_pos h, e1], e2, e3, fun c hc => e4 c (by omega) (by omega) (by omega) (by omega)⟩
      · simp only [if_neg h3]
        exact ⟨fun _ => trivial, fun h => absurd h.2.2 h3, fun h => absurd h.2.2 h3⟩
    · simp only [if_neg h2]
      exact ⟨fun _ => trivial, fun h => absurd h.2.1 h2, fun h => absurd h.2.1 h2⟩
  · simp only [if_neg h1]
    exact ⟨fun _ => trivial, fun h => absurd h.1 h1, fun h => absurd h.1 h1⟩
theorem ask10 {L : List Nat} {C : Nat → Nat} {x sh b : Nat} {x1 x2 x3 : Int32} {I : hI} {J : hJ} {R : hR} (oI : OkI L C I) (oR : OkR L C R) (mx : x ∈ L) (kx : C x = 10) (msh : sh ∈ L) (ksh : C sh = 57) (vsh : R x 4 = some sh) (hb : (0 ≤ x1.toInt ∧ x1.toInt ≤ 9) → R sh (10 + x1.toNatClampNeg) = some b) :
    (¬ askOk x1 x2 x3 → F_X10_ask x x1 x2 x3 I J R = (-3, (I, J, R))) ∧ (askOk x1 x2 x3 → ¬ (I b 1).toInt < 6 → F_X10_ask x x1 x2 x3 I J R = (-5, (I, J, R))) ∧
      (askOk x1 x2 x3 → (I b 1).toInt < 6 → ∃ I1, F_X10_ask x x1 x2 x3 I J R = (I b 1, (I1, J, R)) ∧ I1 b 1 = I b 1 + 1 ∧ (∀ c, C c = 7 → c ≠ b → I1 c 1 = I c 1) ∧ (∀ c, C c = 70 → I1 c = I c)) := by
  simp only [F_X10_ask, F_X10_isName, nm, nmU, nmW, isW, ite1, areS, cI0, cI9, cI99, vsh, Option.getD_some, lt6]
  by_cases h1 : 0 ≤ x1.toInt ∧ x1.toInt ≤ 9
  · simp only [if_pos h1]
    by_cases h2 : 0 ≤ x2.toInt ∧ x2.toInt ≤ 99
    · simp only [if_pos h2]
      by_cases h3 : sortsOk x3.toInt
      · simp only [if_pos h3, tenN h1, hb h1, Option.getD_some]
        refine ⟨fun h => absurd ⟨h1, h2, h3⟩ h, fun _ h => by rw [if_neg h], fun _ h => ?_⟩
        obtain ⟨mb, kb⟩ := shapeAt oR msh ksh (by have := nine h1; omega) (hb h1)
        obtain ⟨w, mw, vw, kw⟩ := rf_10_5 oR mx kx
        obtain ⟨ww, mww, vww, kww⟩ := rf_9_2 oR mw kw
        obtain ⟨I0, f1, f2⟩ := forgetF (x1 := x1) (I := I) (J := J) vww
        have hI : I0 b = I b := f2 b (ne_role kb kww (by decide))
        obtain ⟨I1, e1, e2, e3, e4⟩ := add7c (x1 := x2) (x2 := x3) (I := I0) (J := J) oR mb kb (by rw [hI]; exact (rf_7_1 oI mb kb).1) (by rw [hI]; exact h)
        rw [hI] at e1 e2
        refine ⟨I1, ?_, e2, fun c hc hn => by rw [e3 c hc hn, f2 c (ne_role hc kww (by decide))], fun c hc => by rw [e4 c (by omega) (by omega) (by omega) (by omega), f2 c (ne_role hc kww (by decide))]⟩
        simp only [if_pos h, vw, Option.getD_some, f1, e1]
      · simp only [if_neg h3]
        exact ⟨fun _ => trivial, fun h => absurd h.2.2 h3, fun h => absurd h.2.2 h3⟩
    · simp only [if_neg h2]
      exact ⟨fun _ => trivial, fun h => absurd h.2.1 h2, fun h => absurd h.2.1 h2⟩
  · simp only [if_neg h1]
    exact ⟨fun _ => trivial, fun h => absurd h.1 h1, fun h => absurd h.1 h1⟩
/-- and in the model -/
theorem madd {L : List Nat} {C : Nat → Nat} {mo mm : Nat} {s x2 x3 : Int32} {I : hI} {J : hJ} {R : hR} (oI : OkI L C I) (oR : OkR L C R) (mmo : mo ∈ L) (kmo : C mo = 11) (mmm : mm ∈ L) (kmm : C mm = 70) (vmm : R mo 8 = some mm) (hs : 0 ≤ s.toInt ∧ s.toInt ≤ 19) :
    (¬ ((0 ≤ x2.toInt ∧ x2.toInt ≤ 99) ∧ sortsOk x3.toInt) → F_X11_add mo s x2 x3 I J R = (-3, (I, J, R))) ∧ (((0 ≤ x2.toInt ∧ x2.toInt ≤ 99) ∧ sortsOk x3.toInt) → ¬ (I mm s.toNatClampNeg).toInt < 6 → F_X11_add mo s x2 x3 I J R = (-5, (I, J, R))) ∧
      (((0 ≤ x2.toInt ∧ x2.toInt ≤ 99) ∧ sortsOk x3.toInt) → (I mm s.toNatClampNeg).toInt < 6 → ∃ I1, F_X11_add mo s x2 x3 I J R = (I mm s.toNatClampNeg, (I1, J, R)) ∧ I1 mm = up (I mm) s.toNatClampNeg (I mm s.toNatClampNeg + 1)) := by
  simp only [F_X11_add, nm, inM, ite1, Int32.toInt_toInt64, cJ0, cJ99, vmm, Option.getD_some]
  have rg := rd_70 (i := s) oI mmm kmm (vp_in_iff.mpr ⟨hs.1, by omega⟩)
  by_cases h2 : 0 ≤ x2.toInt ∧ x2.toInt ≤ 99
  · simp only [if_pos h2]
    by_cases h0 : x3 < 0
    · have q := Rg_lt h0
      rw [cI0] at q
      have nS : ¬ sortsOk x3.toInt := fun h => by have := h.1; omega
      simp only [if_pos h0]
      exact ⟨fun _ => trivial, fun h => absurd h.2 nS, fun h => absurd h.2 nS⟩
    · have q := Rg_nlt h0
      rw [cI0] at q
      have hx : x3.toInt = (x3.toInt.toNat : Int) := by omega
      have e7 : (x3 - x3 / 8 * 8 = 7) = (x3.toInt % 8 = 7) := propext ⟨fun h => by have := rem8 hx; rw [h, cI7] at this; omega, fun h => Int32.toInt_inj.mp (by rw [rem8 hx, cI7]; omega)⟩
      simp only [if_neg h0, e7]
      by_cases h7 : x3.toInt % 8 = 7
      · have nS : ¬ sortsOk x3.toInt := fun h => h.2.1 h7
        simp only [if_pos h7]
        exact ⟨fun _ => trivial, fun h => absurd h.2 nS, fun h => absurd h.2 nS⟩
      · simp only [if_neg h7]
        obtain ⟨b9, m9, v9, k9⟩ := rf_11_9 oR mmo kmo
        obtain ⟨b10, m10, v10, k10⟩ := rf_11_10 oR mmo kmo
        obtain ⟨b11, m11, v11, k11⟩ := rf_11_11 oR mmo kmo
        obtain ⟨b12, m12, v12, k12⟩ := rf_11_12 oR mmo kmo
        obtain ⟨b13, m13, v13, k13⟩ := rf_11_13 oR mmo kmo
        obtain ⟨b14, m14, v14, k14⟩ := rf_11_14 oR mmo kmo
        obtain ⟨b15, m15, v15, k15⟩ := rf_11_15 oR mmo kmo
        obtain ⟨b16, m16, v16, k16⟩ := rf_11_16 oR mmo kmo
        obtain ⟨f1, f2, f3⟩ := madd1_l (x1 := s) (x2 := x2) (x3 := x3) (I := I) (J := J) v9 v12 v10 v11 v16 v13 v14 v15 (ne_role kmm k9 (by decide)) (ne_role kmm k12 (by decide)) (ne_role kmm k10 (by decide)) (ne_role kmm k11 (by decide)) (ne_role kmm k16 (by decide)) (ne_role kmm k13 (by decide)) (ne_role kmm k14 (by decide)) (ne_role kmm k15 (by decide)) (by have := rg.2; omega) 5 0 (x3.toInt.toNat / 8) 0 (x3 / 8) (by decide) (div8 hx) (by omega) (by omega)
        have e6 : (I mm s.toNatClampNeg = 6) = ¬ (I mm s.toNatClampNeg).toInt < 6 := propext ⟨fun h => by rw [h, cI6]; omega, fun h => Int32.toInt_inj.mp (by rw [cI6]; have := rg.2; omega)⟩
        rw [e6] at f2 f3
        refine ⟨fun h => f1 ?_, fun h => f2 h.2.2.2, fun h h6 => f3 h.2.2.2 (fun q => q h6)⟩
        rw [← Bool.not_eq_true]
        exact fun hd => h ⟨h2, q, h7, hd⟩
  · simp only [if_neg h2]
    exact ⟨fun _ => trivial, fun h => absurd h.1 h2, fun h => absurd h.1 h2⟩
