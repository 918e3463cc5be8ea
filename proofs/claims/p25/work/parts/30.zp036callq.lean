section CALLC
variable {I : hI} {R : hR} {kc ru co cvl ch kp la kh tf fac n a8 a9 : Nat} {cm css : Nat → Nat} {ar : Nat → Nat} {pl : Nat → Nat → Nat} {cv : Int32 → Int32 → Int64 → Nat ⊕ Int64} {Vp : Int32 → Int32 → Prop} {kv : Int32 → Int64}
noncomputable def wkC (I : hI) (c fac n : Nat) (fld : Int64) (a : Nat → Int64) : Option (Int64 × Option Int64) := wkA (I c 4) (I c 5) (I c 6) (I c 1) n (I fac) a fld
/-- the rest of what a call reads in the class -/
def ChP (I : hI) (R : hR) (kc ru la kh tf fac cvl a8 a9 n c : Nat) : Prop :=
  (R kc 4 = some kh ∧ R kc 8 = some a8 ∧ R kc 9 = some a9 ∧ R c 7 = some fac) ∧ (a8 ≠ a9 ∧ a8 ≠ ru ∧ a9 ≠ ru ∧ cvl ≠ a8 ∧ cvl ≠ a9 ∧ a8 ≠ kc ∧ a9 ≠ kc ∧ kh ≠ a8 ∧ a8 ≠ tf ∧ a9 ≠ tf ∧ tf ≠ kc ∧ tf ≠ ru ∧ la ≠ a8 ∧ la ≠ a9 ∧ la ≠ tf ∧ fac ≠ ru) ∧ (I kc 7).toInt = n ∧ (∀ i, i < 4 → -1000 ≤ (I fac i).toInt ∧ (I fac i).toInt ≤ 1000) ∧ (0 ≤ (I c 1).toInt ∧ (I c 1).toInt ≤ 6) ∧ (0 ≤ (I c 4).toInt ∧ (I c 4).toInt ≤ 2)
set_option maxHeartbeats 2000000 in
theorem performE (cx : ChC I R kc ru co cvl ch kp la n cm css ar pl Vp) (cy : ChP I R kc ru la kh tf fac cvl a8 a9 n (cm n)) (hcar : CarC ru cv Vp I R) (hs0 : ∀ i, i < 4 → 0 ≤ (I (css 0) i).toInt ∧ (I (css 0) i).toInt ≤ 6) (hv : ∀ k, k < n → Vp (I (cm (k + 1)) 1) (I (cm k) 1)) {xb : Int32} {at_ : Nat} (hat : (xb + I (cm n) 5).toNatClampNeg = at_) {J : hJ} (hkv : ∀ s : Int32, J cvl s.toNatClampNeg = kv s) :
    ∃ I1 J1 R1 o, o = outA ar (fun k i => I (css k) i) (fun k => I (cm k) 1) pl cv kv (J kh) n (wkC I (cm n) fac (ar n) (J tf at_)) ∧ F_X1_perform kc tf xb I J R = (if o.1.isSome = true then 1 else 0, (I1, J1, R1)) ∧ (∀ z j, ¬ (z = ru ∧ j = 11) → ¬ (z = la ∧ (j = 1 ∨ j = 2 ∨ j = 3 ∨ j = 4)) → I1 z j = I z j) ∧ (I1 la 3 = (if o.1.isSome = true then I la 3 + 1 else I la 3) ∧ I1 la 4 = (if o.1.isSome = true then I la 4 else I la 4 + 1)) ∧ (∀ z j, ¬ (z = ru ∧ j = 10) → ¬ (z = kc ∧ j = 10) → z ≠ a8 → z ≠ a9 → ¬ (z = tf ∧ j = at_) → ¬ (z = la ∧ j = 0) → J1 z j = J z j) ∧ J1 tf at_ = o.2.getD (J tf at_) ∧ J1 la 0 = o.1.getD (J la 0) ∧ (∀ z j, ¬ (z = kc ∧ (j = 8 ∨ j = 9)) → R1 z j = R z j) ∧ ∃ p q, R1 kc 8 = some p ∧ R1 kc 9 = some q ∧ ((p = a8 ∧ q = a9) ∨ (p = a9 ∧ q = a8)) := by
  obtain ⟨⟨v0, v1, vc, v3, v5, v6⟩, ⟨u1, u2', u3, u4, u5, u6, u7, u8⟩, hn, hm, hpl⟩ := id cx
  obtain ⟨⟨w4, w8, w9, w7⟩, ⟨e1, e2, e3, e4, e5, e6, e7, e8, e9, e10, e11, e12, e13, e14, e15, e16⟩, hl, hf, hr6, hk2⟩ := id cy
  obtain ⟨c1, c2, c3, c4, c5, c6, c7, c8, c9, c10⟩ := hm 0 (Nat.zero_le _)
  obtain ⟨m1, m2, m3, m4, m5, m6, m7, m8, m9, m10⟩ := hm n (Nat.le_refl _)
  have one : ¬ (1 : Int32) = 0 := by decide
  have la34 : ∀ {I2 : hI} {w : Int32} {z j k : Nat}, (k = 1 ∨ k = 2 ∨ k = 3 ∨ k = 4) → ¬ (z = la ∧ (j = 1 ∨ j = 2 ∨ j = 3 ∨ j = 4)) → u2 I2 la k w z j = I2 z j := fun hk h => u2_off (fun g => h ⟨g.1, by omega⟩)
  simp only [F_X1_perform, nm, nmU]
  have t0 : F_X1_takeHand kc I J R = F_X1_takeHand_9 kc (cm 0) ch 5 I J R 0 := by
    simp only [F_X1_takeHand, nm, v5, Option.getD_some]
    rw [show (0 : Int32).toNatClampNeg = 0 by decide, c1]
    rfl
  obtain ⟨J1, g1, g2⟩ := takeH_l (b1 := ch) c2 w4 w8 v3 e8 c3 c4 hs0 (J0 := J) (ar 0) 5 0 0 J (by decide) (by omega) (by omega) (fun _ _ _ => rfl) (fun j hj => by omega)
  rw [t0]
  rcases g2 with ⟨g2, g3⟩ | ⟨g2, g3⟩
  · have hh : ¬ ∃ i, i < ar 0 ∧ F_X11_isOf (I (css 0) i) (J kh i) = 0 := fun ⟨i, i1, i2⟩ => (g3 i i1).2 i2
    rw [g2]
    dsimp only
    rw [if_neg one]
    have t1 : F_X1_passIn kc I J1 R = F_X1_passIn_2 kc 11 I J1 R 0 := rfl
    obtain ⟨I2, J2, R2, p1, p2, p3, p4⟩ := passIn_l (kv := kv) cx hcar hl e1 ⟨e2, e3, e4, e5⟩ (J0 := J1) (fun s => by rw [g1 cvl _ e4]; exact hkv s) (hd := J kh) n 11 0 0 I J1 R a8 a9 (J kh) (by decide) (by omega) (by omega) (fun _ _ _ => rfl) (fun _ _ _ _ _ => rfl) (fun _ _ _ => rfl) w8 w9 (Or.inl ⟨rfl, rfl⟩) rfl (fun i hi => (g3 i hi).1)
    rw [t1]
    have w3 : R2 kc 3 = some la := (p3 kc 3 (fun g => by omega)).trans v3
    have tf2 : J2 tf at_ = J tf at_ := by rw [p2 tf at_ (fun g => e12 g.1) (fun g => e9 g.symm) (fun g => e10 g.symm)]; exact g1 tf at_ (fun g => e9 g.symm)
    have la2 : J2 la 0 = J la 0 := by rw [p2 la 0 (fun g => u4 g.1) e13 e14]; exact g1 la 0 e13
    have fr2 : ∀ z j, ¬ (z = ru ∧ j = 10) → z ≠ a8 → z ≠ a9 → J2 z j = J z j := fun z j z1 z2 z3 => by rw [p2 z j z1 z2 z3]; exact g1 z j z2
    rcases p4 with ⟨a, p, q, q1, q2, q3, q4, q5, q6, q7⟩ | ⟨e, q1, q2, -, -, p, q, q4, q5, q6⟩
    · rw [q2]
      dsimp only
      rw [if_neg one]
      have pk : p ≠ kc ∧ p ≠ tf := by rcases q6 with ⟨z, -⟩ | ⟨z, -⟩ <;> rw [z]; exact ⟨e6, e9⟩; exact ⟨e7, e10⟩
      have ic : ∀ k, I2 (cm n) k = I (cm n) k := fun k => q3 (cm n) k (fun g => m5 g.1)
      have if_ : ∀ k, I2 fac k = I fac k := fun k => q3 fac k (fun g => e16 g.1)
      have iff : I2 fac = I fac := funext if_
      obtain ⟨J3, r1, r2⟩ := doWorkC (R := R2) (I := I2) (tf := tf) (la := la) (ch := ch) (c := cm n) (fac := fac) (a8 := p) ((p3 kc 5 (fun g => by omega)).trans v5) q4 w3 (by rw [q3 kc 7 (fun g => u3 g.1)]; exact hl) ((p3 ch n (fun g => u7 g.1)).trans m1) ((p3 (cm n) 7 (fun g => m7 g.1)).trans w7) pk.1 e11 pk.2 (by rw [ic]; exact m3) m4 (by rw [iff]; exact hf) (by rw [ic]; exact hr6) (by rw [ic]; exact hk2) (xb := xb) (J := J2)
      rw [ic, ic, ic, ic, iff, hat, tf2] at r2
      rw [ic, hat] at r1
      have ewk : wkA (I (cm n) 4) (I (cm n) 5) (I (cm n) 6) (I (cm n) 1) (ar n) (I fac) (J2 p) (J tf at_) = wkC I (cm n) fac (ar n) (J tf at_) a := wkA_congr (fun _ => rfl) (fun _ _ => rfl) q7
      rw [ewk] at r2
      have fr3 : ∀ z j, ¬ (z = ru ∧ j = 10) → ¬ (z = kc ∧ j = 10) → z ≠ a8 → z ≠ a9 → ¬ (z = tf ∧ j = at_) → J3 z j = J z j := fun z j z1 z2 z3 z4 z5 => by rw [r1 z j z2 z5]; exact fr2 z j z1 z3 z4
      have la3 : J3 la 0 = J la 0 := by rw [r1 la 0 (fun g => u5 g.1) (fun g => e15 g.1)]; exact la2
      have i2la : ∀ j, I2 la j = I la j := fun j => q3 la j (fun g => u4 g.1)
      rcases r2 with ⟨z, nf, r3, r4, r5, r6⟩ | ⟨r3, r4, r6⟩
      · rw [r4]
        dsimp only
        rw [if_neg one]
        have hl2 : (I2 kc 7).toInt = n := by rw [q3 kc 7 (fun g => u3 g.1)]; exact hl
        have t2 : F_X1_passBack kc I2 J3 R2 = F_X1_passBack_5 kc (I2 kc 7) (n + 2) I2 J3 R2 (I2 kc 7) := by
          simp only [F_X1_passBack, nm]
          rw [show ((I2 kc 7).toInt + 1).toNat + 1 = n + 2 by rw [hl2]; omega]
        rw [t2]
        obtain ⟨I4, J4, b1, b2, b3⟩ := passBack_l (y1 := I2 kc 7) cx hcar p3 hv (J0 := J3) n (n + 2) (I2 kc 7) I2 J3 hl2 (Nat.le_refl _) (by omega) q3 (fun _ _ _ _ => rfl)
        rw [r5] at b3
        have fr4 : ∀ z j, ¬ (z = ru ∧ j = 10) → ¬ (z = kc ∧ j = 10) → z ≠ a8 → z ≠ a9 → ¬ (z = tf ∧ j = at_) → J4 z j = J z j := fun z j z1 z2 z3 z4 z5 => by rw [b2 z j z1 z2]; exact fr3 z j z1 z2 z3 z4 z5
        have tf4 : J4 tf at_ = nf.getD (J tf at_) := by rw [b2 tf at_ (fun g => e12 g.1) (fun g => e11 g.1)]; exact r6
        have la4 : J4 la 0 = J la 0 := by rw [b2 la 0 (fun g => u4 g.1) (fun g => u5 g.1)]; exact la3
        rcases b3 with ⟨v, b4, b5, b6, b7⟩ | ⟨e, b4, b5, -, -⟩
        · rw [b5]
          dsimp only
          rw [if_neg one, w3]
          simp only [Option.getD_some]
          have eo := outA_ok (re := fun k => I (cm k) 1) hh q1 r3 b4
          refine ⟨_, _, R2, _, rfl, by rw [eo]; rfl, fun z j z1 z2 => ?_, ⟨?_, ?_⟩, fun z j z1 z2 z3 z4 z5 z6 => ?_, ?_, ?_, p3, p, q, q4, q5, q6⟩
          · rw [la34 (by omega) z2]; exact b6 z j z1
          · rw [eo, u2_at, b6 la 3 (fun g => u4 g.1)]; rfl
          · rw [eo, u2_nk (by decide), b6 la 4 (fun g => u4 g.1)]; rfl
          · rw [u2_off z6]; exact fr4 z j z1 z2 z3 z4 z5
          · rw [eo, u2_ne (fun g => e15 g.symm)]; exact tf4
          · rw [eo, u2_at, b7]; rfl
        · rw [b5]
          dsimp only
          rw [if_pos rfl, w3]
          simp only [Option.getD_some]
          have eo := outA_bk (re := fun k => I (cm k) 1) hh q1 r3 b4
          have i4 : ∀ j, j ≠ 1 → j ≠ 2 → I4 la j = I la j := fun j j1 j2 => b1 la j (fun g => u4 g.1) (fun g => by omega)
          refine ⟨_, J4, R2, _, rfl, by rw [eo]; rfl, fun z j z1 z2 => ?_, ⟨?_, ?_⟩, fun z j z1 z2 z3 z4 z5 _ => fr4 z j z1 z2 z3 z4 z5, by rw [eo]; exact tf4, by rw [eo]; exact la4, p3, p, q, q4, q5, q6⟩
          · rw [la34 (by omega) z2]; exact b1 z j z1 (fun g => z2 ⟨g.1, by omega⟩)
          · rw [eo, u2_nk (by decide), i4 3 (by decide) (by decide)]; rfl
          · rw [eo, u2_at, i4 4 (by decide) (by decide)]; rfl
      · rw [r4]
        dsimp only
        rw [if_pos rfl, w3]
        simp only [Option.getD_some]
        have eo := outA_wk (re := fun k => I (cm k) 1) hh q1 r3
        refine ⟨_, J3, R2, _, rfl, by rw [eo]; rfl, fun z j z1 z2 => ?_, ⟨?_, ?_⟩, fun z j z1 z2 z3 z4 z5 _ => fr3 z j z1 z2 z3 z4 z5, by rw [eo]; exact r6, by rw [eo]; exact la3, p3, p, q, q4, q5, q6⟩
        · rw [la34 (by omega) z2, la34 (by omega) z2, la34 (by omega) z2]; exact q3 z j z1
        · rw [eo, u2_nk (by decide), u2_nk (by decide), u2_nk (by decide), i2la]; rfl
        · rw [eo, u2_at, u2_nk (by decide), u2_nk (by decide), i2la]; rfl
    · rw [q2]
      dsimp only
      rw [if_pos rfl, w3]
      simp only [Option.getD_some]
      have eo := outA_run (re := fun k => I (cm k) 1) (wk := wkC I (cm n) fac (ar n) (J tf at_)) hh q1
      have i2la : ∀ j, j ≠ 1 → j ≠ 2 → I2 la j = I la j := fun j j1 j2 => p1 la j (fun g => u4 g.1) (fun g => by omega)
      refine ⟨_, J2, R2, _, rfl, by rw [eo]; rfl, fun z j z1 z2 => ?_, ⟨?_, ?_⟩, fun z j z1 _ z3 z4 _ _ => fr2 z j z1 z3 z4, by rw [eo]; exact tf2, by rw [eo]; exact la2, p3, p, q, q4, q5, q6⟩
      · rw [la34 (by omega) z2]; exact p1 z j z1 (fun g => z2 ⟨g.1, by omega⟩)
      · rw [eo, u2_nk (by decide), i2la 3 (by decide) (by decide)]; rfl
      · rw [eo, u2_at, i2la 4 (by decide) (by decide)]; rfl
  · rw [g2]
    dsimp only
    rw [if_pos rfl, v3]
    simp only [Option.getD_some]
    have eo := outA_hand (re := fun k => I (cm k) 1) (pl := pl) (cv := cv) (kv := kv) (n := n) (wk := wkC I (cm n) fac (ar n) (J tf at_)) (so := fun k i => I (css k) i) (h := J kh) g3
    refine ⟨_, J1, R, _, rfl, by rw [eo]; rfl, fun z j z1 z2 => ?_, ⟨?_, ?_⟩, fun z j _ _ z3 _ _ _ => g1 z j z3, by rw [eo]; exact g1 tf at_ (fun g => e9 g.symm), by rw [eo]; exact g1 la 0 e13, fun _ _ _ => rfl, a8, a9, w8, w9, Or.inl ⟨rfl, rfl⟩⟩
    · rw [la34 (by omega) z2, la34 (by omega) z2, la34 (by omega) z2]
    · rw [eo, u2_nk (by decide), u2_nk (by decide), u2_nk (by decide)]; rfl
    · rw [eo, u2_at, u2_nk (by decide), u2_nk (by decide)]; rfl
end CALLC
