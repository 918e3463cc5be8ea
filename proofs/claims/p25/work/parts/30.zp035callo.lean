/-! a whole call, in the model and in the class -/
noncomputable def outA (ar : Nat → Nat) (so : Nat → Nat → Int32) (re : Nat → Int32) (pl : Nat → Nat → Nat) (cv : Int32 → Int32 → Int64 → Nat ⊕ Int64) (kv : Int32 → Int64) (h : Nat → Int64) (n : Nat) (wk : (Nat → Int64) → Option (Int64 × Option Int64)) : Option Int64 × Option Int64 :=
  @ite (Option Int64 × Option Int64) (∃ i, i < ar 0 ∧ F_X11_isOf (so 0 i) (h i) = 0) (Classical.propDecidable _) (none, none) (match runA ar so pl cv kv h n with
    | Sum.inl _ => (none, none)
    | Sum.inr a => match wk a with
      | none => (none, none)
      | some q => match backA re cv n q.1 with
        | Sum.inl _ => (none, q.2)
        | Sum.inr v => (some v, q.2))
theorem outA_hand {ar : Nat → Nat} {so : Nat → Nat → Int32} {re : Nat → Int32} {pl : Nat → Nat → Nat} {cv : Int32 → Int32 → Int64 → Nat ⊕ Int64} {kv : Int32 → Int64} {h : Nat → Int64} {n : Nat} {wk : (Nat → Int64) → Option (Int64 × Option Int64)} (hh : ∃ i, i < ar 0 ∧ F_X11_isOf (so 0 i) (h i) = 0) : outA ar so re pl cv kv h n wk = (none, none) := by unfold outA; rw [if_pos hh]
section OUT
variable {ar : Nat → Nat} {so : Nat → Nat → Int32} {re : Nat → Int32} {pl : Nat → Nat → Nat} {cv : Int32 → Int32 → Int64 → Nat ⊕ Int64} {kv : Int32 → Int64} {h : Nat → Int64} {n : Nat} {wk : (Nat → Int64) → Option (Int64 × Option Int64)}
theorem outA_run {e : Nat} (hh : ¬ ∃ i, i < ar 0 ∧ F_X11_isOf (so 0 i) (h i) = 0) (h1 : runA ar so pl cv kv h n = Sum.inl e) : outA ar so re pl cv kv h n wk = (none, none) := by unfold outA; rw [if_neg hh, h1]
theorem outA_wk {a : Nat → Int64} (hh : ¬ ∃ i, i < ar 0 ∧ F_X11_isOf (so 0 i) (h i) = 0) (h1 : runA ar so pl cv kv h n = Sum.inr a) (h2 : wk a = none) : outA ar so re pl cv kv h n wk = (none, none) := by unfold outA; rw [if_neg hh, h1]; simp only [h2]
theorem outA_bk {a : Nat → Int64} {q : Int64 × Option Int64} {e : Nat} (hh : ¬ ∃ i, i < ar 0 ∧ F_X11_isOf (so 0 i) (h i) = 0) (h1 : runA ar so pl cv kv h n = Sum.inr a) (h2 : wk a = some q) (h3 : backA re cv n q.1 = Sum.inl e) : outA ar so re pl cv kv h n wk = (none, q.2) := by unfold outA; rw [if_neg hh, h1]; simp only [h2, h3]
theorem outA_ok {a : Nat → Int64} {q : Int64 × Option Int64} {v : Int64} (hh : ¬ ∃ i, i < ar 0 ∧ F_X11_isOf (so 0 i) (h i) = 0) (h1 : runA ar so pl cv kv h n = Sum.inr a) (h2 : wk a = some q) (h3 : backA re cv n q.1 = Sum.inr v) : outA ar so re pl cv kv h n wk = (some v, q.2) := by unfold outA; rw [if_neg hh, h1]; simp only [h2, h3]
end OUT
section CALLM
variable {I : hI} {R : hR} {mo y10 o11 e12 w13 f14 u15 t16 hv cl cp ma mt mf mh n : Nat} {Fm ar : Nat → Nat} {pl : Nat → Nat → Nat} {cv : Int32 → Int32 → Int64 → Nat ⊕ Int64} {Vp : Int32 → Int32 → Prop} {kv : Int32 → Int64}
/-- the rest of what a call reads in the model -/
def ChN (I : hI) (R : hR) (mo w13 f14 u15 t16 e12 y10 mf mh ma mt n m : Nat) : Prop :=
  (R mo 13 = some w13 ∧ R mo 14 = some f14 ∧ R mo 15 = some u15 ∧ R mo 16 = some t16 ∧ R mo 23 = some mf ∧ R mo 24 = some mh) ∧ (mf ≠ mo ∧ ma ≠ mf ∧ mt ≠ mf ∧ mh ≠ ma ∧ mh ≠ mt ∧ mh ≠ mo) ∧ (I mo 49).toInt = ((n + 1 : Nat) : Int) ∧ m < 120 ∧ (0 ≤ (I w13 m).toInt ∧ (I w13 m).toInt ≤ 2) ∧ (0 ≤ (I e12 m).toInt ∧ (I e12 m).toInt ≤ 6)
noncomputable def wkM (I : hI) (w13 f14 u15 t16 e12 m n : Nat) (fld : Int64) (a : Nat → Int64) : Option (Int64 × Option Int64) := wkA (I w13 m) (I f14 m) (I u15 m) (I e12 m) n (fun i => I t16 (4 * m + i)) a fld
theorem mch_l (cx : ChM I R mo y10 o11 e12 hv cl cp ma mt n Fm ar pl Vp) (cy : ChN I R mo w13 f14 u15 t16 e12 y10 mf mh ma mt n (Fm n)) (hcar : CarM mo cv Vp I R) (hv' : ∀ k, k < n → Vp (I e12 (Fm (k + 1))) (I e12 (Fm k))) {x1 y3 z1 : Int32} {at_ : Nat} (hat : (3 * x1 + I f14 (Fm n)).toNatClampNeg = at_) {J0 : hJ} (hkv : ∀ s : Int32, J0 hv s.toNatClampNeg = kv s) {hd : Nat → Int64} (hh : ¬ ∃ i, i < ar 0 ∧ F_X11_isOf (I o11 (4 * Fm 0 + i)) (hd i) = 0) :
    ∀ (r f k : Nat) (x : Int32) (J : hJ) (a : Nat → Int64), x.toInt = ((k + 1 : Nat) : Int) → k + r = n → r < f → (∀ z j, ¬ (z = mo ∧ (j = 31 ∨ j = 37)) → z ≠ ma → z ≠ mt → J z j = J0 z j) → runA ar (fun k i => I o11 (4 * Fm k + i)) pl cv kv hd k = Sum.inr a → (∀ i, i < ar k → J ma i = a i) →
      ∃ I1 J1 o, o = outA ar (fun k i => I o11 (4 * Fm k + i)) (fun k => I e12 (Fm k)) pl cv kv hd n (wkM I w13 f14 u15 t16 e12 (Fm n) (ar n) (J0 mf at_)) ∧ F_X11_callChain_70 mo x1 y3 z1 cl f I J R x = (if o.1.isSome = true then 0 else -7, (I1, J1, R)) ∧ (∀ z j, ¬ (z = mo ∧ (j = 26 ∨ j = 27 ∨ j = 28)) → I1 z j = I z j) ∧ (∀ z j, ¬ (z = mo ∧ (j = 31 ∨ j = 37 ∨ j = 54 ∨ j = 55 ∨ j = 25)) → z ≠ ma → z ≠ mt → ¬ (z = mf ∧ j = at_) → J1 z j = J0 z j) ∧ J1 mf at_ = o.2.getD (J0 mf at_) ∧ J1 mo 25 = o.1.getD (J0 mo 25) := by
  obtain ⟨⟨v10, v11, v12, v20, v50, v51, v52, v53⟩, ⟨u1, u2', u3, u4, u5, u6⟩, hn, hm, hpl⟩ := id cx
  obtain ⟨⟨w13', w14, w15, w16, w23, w24⟩, ⟨d1, d2, d3, d4, d5, d6⟩, h49, hm120, hk2, hr6⟩ := id cy
  intro r
  induction r with
  | zero =>
    intro f k x J a hx hr hf hJ hrun ha
    obtain ⟨f', rfl⟩ : ∃ f', f = f' + 1 := ⟨f - 1, by omega⟩
    obtain rfl : k = n := by omega
    have y28 : (I mo 49 - 1).toInt = (k : Int) := by rw [isub h49 cI1 (by omega) (by omega)]; omega
    obtain ⟨c1, c2, c3, c4⟩ := hm k (Nat.le_refl _)
    rw [F_X11_callChain_70_s]
    simp only [B_X11_callChain_70, F_X11_fail, nm, nmU, nmW, clamp_toInt y28]
    rw [if_pos (by rw [ile, h49, hx]; omega)]
    obtain ⟨J1, g1, g2⟩ := doWorkM (J := J) (xo := x1) v10 w16 v52 v12 w13' w14 w15 w23 u2' d1 d2 c1 hm120 c3 c4 hk2 hr6 hat
    have emf : J mf at_ = J0 mf at_ := hJ mf at_ (fun g => d1 g.1) (fun g => d2 g.symm) (fun g => d3 g.symm)
    have ewk : wkA (I w13 (Fm k)) (I f14 (Fm k)) (I u15 (Fm k)) (I e12 (Fm k)) (ar k) (fun i => I t16 (4 * Fm k + i)) (J ma) (J mf at_) = wkM I w13 f14 u15 t16 e12 (Fm k) (ar k) (J0 mf at_) a := by
      rw [emf]
      exact wkA_congr (fun _ => rfl) (fun _ _ => rfl) ha
    rw [ewk, emf] at g2
    have fr1 : ∀ z j, ¬ (z = mo ∧ (j = 31 ∨ j = 37 ∨ j = 54 ∨ j = 55 ∨ j = 25)) → z ≠ ma → z ≠ mt → ¬ (z = mf ∧ j = at_) → J1 z j = J0 z j := fun z j z1 z2 z3 z4 => by
      rw [g1 z j (fun g => z1 ⟨g.1, by omega⟩) z4]
      exact hJ z j (fun g => z1 ⟨g.1, by omega⟩) z2 z3
    have e25 : J1 mo 25 = J0 mo 25 := by
      rw [g1 mo 25 (fun g => by omega) (fun g => d1 g.1.symm)]
      exact hJ mo 25 (fun g => by omega) (fun g => u2' g.symm) (fun g => u3 g.symm)
    rcases g2 with ⟨z, nf, g3, g4, g5, g6⟩ | ⟨g3, g4, g6⟩
    · rw [g4]
      dsimp only
      rw [if_neg (show ¬ (1 : Int32) = 0 by decide), show ((I mo 49 - 1).toInt + 1).toNat + 1 = k + 2 by rw [y28]; omega]
      obtain ⟨J2, b1, b2⟩ := back_lM (x1 := x1) (y3 := y3) (z1 := z1) cx hcar hv' (J0 := J1) k (k + 2) (I mo 49 - 1) J1 y28 (Nat.le_refl _) (by omega) (fun _ _ _ => rfl)
      rw [g5] at b2
      have fr2 : ∀ z j, ¬ (z = mo ∧ (j = 31 ∨ j = 37 ∨ j = 54 ∨ j = 55 ∨ j = 25)) → z ≠ ma → z ≠ mt → ¬ (z = mf ∧ j = at_) → J2 z j = J0 z j := fun z j z1 z2 z3 z4 => by
        rw [b1 z j (fun g => z1 ⟨g.1, by omega⟩)]
        exact fr1 z j z1 z2 z3 z4
      have emf2 : J2 mf at_ = nf.getD (J0 mf at_) := by rw [b1 mf at_ (fun g => d1 g.1)]; exact g6
      rcases b2 with ⟨v, b3, b4, b5⟩ | ⟨e, xe, b3, b4, b5, b6⟩
      · exact ⟨I, J2, _, rfl, by rw [outA_ok hh hrun g3 b3]; exact b4, fun _ _ _ => rfl, fr2, by rw [outA_ok hh hrun g3 b3]; exact emf2, by rw [outA_ok hh hrun g3 b3]; exact b5⟩
      · refine ⟨failM I mo 3 xe, J2, _, rfl, by rw [outA_bk hh hrun g3 b3]; exact b5, fun z j z1 => ?_, fr2, by rw [outA_bk hh hrun g3 b3]; exact emf2, by rw [outA_bk hh hrun g3 b3]; exact b6.trans e25⟩
        unfold failM
        rw [u2_off (fun g => z1 ⟨g.1, by omega⟩), u2_off (fun g => z1 ⟨g.1, by omega⟩), u2_off (fun g => z1 ⟨g.1, by omega⟩)]
    · rw [g4]
      dsimp only
      rw [if_pos rfl]
      refine ⟨_, J1, _, rfl, by rw [outA_wk hh hrun g3]; rfl, fun z j z1 => ?_, fr1, by rw [outA_wk hh hrun g3]; exact g6, by rw [outA_wk hh hrun g3]; exact e25⟩
      rw [u2_off (fun g => z1 ⟨g.1, by omega⟩), u2_off (fun g => z1 ⟨g.1, by omega⟩), u2_off (fun g => z1 ⟨g.1, by omega⟩)]
  | succ r ih =>
    intro f k x J a hx hr hf hJ hrun ha
    obtain ⟨f', rfl⟩ : ∃ f', f = f' + 1 := ⟨f - 1, by omega⟩
    have hk : k < n := by omega
    have hx1 : (x + 1).toInt = ((k + 1 + 1 : Nat) : Int) := by rw [add1 (b := 11) (by omega) (by omega), hx]; omega
    have hxm : (x - 1).toInt = (k : Int) := by rw [isub hx cI1 (by omega) (by omega)]; omega
    obtain ⟨a1, a2, a3, a4⟩ := hm k (by omega)
    obtain ⟨c1, c2, c3, c4⟩ := hm (k + 1) (by omega)
    rw [F_X11_callChain_70_s]
    simp only [B_X11_callChain_70, F_X11_goIn, nm, nmU, v50, Option.getD_some, clamp_toInt hx, clamp_toInt hxm]
    rw [if_neg (by rw [ile, h49, hx]; omega), show ((4 - Int32.toInt 0).toNat + 1) = 5 by decide]
    obtain ⟨J1, g1, g2⟩ := goIn_l (kv := kv) (y2 := x - 1) (b1 := cl) cx hcar hk hx c1 a1 (J0 := J) (fun s => by rw [hJ hv _ (fun g => u1 g.1) u5 u6]; exact hkv s) (ar (k + 1)) 5 0 0 J (by decide) (by omega) (by omega) (fun _ _ _ _ => rfl) (fun j hj => by omega)
    have evc : ∀ j, j < ar (k + 1) → evA (fun k i => I o11 (4 * Fm k + i)) pl cv kv k (J ma) j = evA (fun k i => I o11 (4 * Fm k + i)) pl cv kv k a j := fun j hj => by
      unfold evA
      by_cases h4 : pl k j = 4
      · rw [if_pos h4, if_pos h4]
      · rw [if_neg h4, if_neg h4, ha _ (((hpl k hk j hj).2.resolve_left h4).1)]
    have hJ1 : ∀ z j, ¬ (z = mo ∧ (j = 31 ∨ j = 37)) → z ≠ ma → z ≠ mt → J1 z j = J0 z j := fun z j z1 z2 z3 => by rw [g1 z j z1 z3 z2]; exact hJ z j z1 z2 z3
    rcases g2 with ⟨z1, z2⟩ | ⟨e, xe, z1, z2, z3⟩
    · rw [z1]
      dsimp only
      rw [if_neg (show ¬ (1 : Int32) = 0 by decide)]
      have hrun1 : runA ar (fun k i => I o11 (4 * Fm k + i)) pl cv kv hd (k + 1) = Sum.inr (vE (evA (fun k i => I o11 (4 * Fm k + i)) pl cv kv k a)) := by
        have e0 : fE (evA (fun k i => I o11 (4 * Fm k + i)) pl cv kv k a) (ar (k + 1)) = none := fE_all _ (fun j hj => ⟨_, (evc j hj).symm.trans (z2 j hj)⟩)
        simp only [runA, hrun, e0]
      exact ih f' (k + 1) (x + 1) J1 _ hx1 (by omega) (by omega) hJ1 hrun1 (fun i hi => (vE_r ((evc i hi).symm.trans (z2 i hi))).symm)
    · rw [z1]
      dsimp only
      rw [if_pos rfl]
      have hrun1 : ∀ m, k + 1 ≤ m → runA ar (fun k i => I o11 (4 * Fm k + i)) pl cv kv hd m = Sum.inl e := by
        intro m
        induction m with
        | zero => intro h; omega
        | succ m ihm =>
          intro h
          by_cases g : m = k
          · rw [g]
            have e0 : fE (evA (fun k i => I o11 (4 * Fm k + i)) pl cv kv k a) (ar (k + 1)) = some e := by rw [← z2]; exact fE_congr _ (fun j hj => (evc j hj).symm)
            simp only [runA, hrun, e0]
          · simp only [runA, ihm (by omega)]
      have hn' := hrun1 n (by omega)
      refine ⟨failM I mo 1 xe, J1, _, rfl, by rw [outA_run hh hn']; rfl, fun z j z1 => ?_, fun z j z1 z2 z3 z4 => hJ1 z j (fun g => z1 ⟨g.1, by omega⟩) z2 z3, ?_, ?_⟩
      · unfold failM
        rw [u2_off (fun g => z1 ⟨g.1, by omega⟩), u2_off (fun g => z1 ⟨g.1, by omega⟩), u2_off (fun g => z1 ⟨g.1, by omega⟩)]
      · rw [outA_run hh hn']
        exact hJ1 mf at_ (fun g => d1 g.1) (fun g => d2 g.symm) (fun g => d3 g.symm)
      · rw [outA_run hh hn']
        exact hJ1 mo 25 (fun g => by omega) (fun g => u2' g.symm) (fun g => u3 g.symm)
theorem mhand_l (cx : ChM I R mo y10 o11 e12 hv cl cp ma mt n Fm ar pl Vp) (cy : ChN I R mo w13 f14 u15 t16 e12 y10 mf mh ma mt n (Fm n)) {x1 y3 z1 : Int32} (h3 : y3.toInt = Fm 0) {J0 : hJ} :
    ∀ (r f i : Nat) (x : Int32) (J : hJ), x.toInt = i → i + r = ar 0 → r < f → (∀ z j, z ≠ ma → J z j = J0 z j) → (∀ j, j < i → J ma j = J0 mh j ∧ ¬ F_X11_isOf (I o11 (4 * Fm 0 + j)) (J0 mh j) = 0) →
      ∃ J1, (∀ z j, z ≠ ma → J1 z j = J0 z j) ∧ ((F_X11_callChain_9 mo x1 y3 z1 cl f I J R x = F_X11_callChain_70 mo x1 y3 z1 cl 11 I J1 R 1 ∧ ∀ j, j < ar 0 → J1 ma j = J0 mh j ∧ ¬ F_X11_isOf (I o11 (4 * Fm 0 + j)) (J0 mh j) = 0) ∨ (F_X11_callChain_9 mo x1 y3 z1 cl f I J R x = (-7, (failM I mo 0 (-1), J1, R)) ∧ ∃ j, j < ar 0 ∧ F_X11_isOf (I o11 (4 * Fm 0 + j)) (J0 mh j) = 0)) := by
  obtain ⟨⟨v10, v11, v12, v20, v50, v51, v52, v53⟩, ⟨u1, u2', u3, u4, u5, u6⟩, hn, hm, hpl⟩ := id cx
  obtain ⟨⟨w13', w14, w15, w16, w23, w24⟩, ⟨d1, d2, d3, d4, d5, d6⟩, h49, hm120, hk2, hr6⟩ := id cy
  obtain ⟨c1, c2, c3, c4⟩ := hm 0 (Nat.zero_le _)
  intro r
  induction r with
  | zero =>
    intro f i x J hx hr hf hJ hd
    obtain ⟨f', rfl⟩ : ∃ f', f = f' + 1 := ⟨f - 1, by omega⟩
    rw [F_X11_callChain_9_s]
    simp only [B_X11_callChain_9, nm, v10, Option.getD_some, clamp_toInt h3]
    rw [if_pos (by rw [ile, c3, hx]; omega), show ((11 - Int32.toInt 1).toNat + 1) = 11 by decide]
    exact ⟨J, hJ, Or.inl ⟨rfl, fun j hj => hd j (by omega)⟩⟩
  | succ r ih =>
    intro f i x J hx hr hf hJ hd
    obtain ⟨f', rfl⟩ : ∃ f', f = f' + 1 := ⟨f - 1, by omega⟩
    have hx1 : (x + 1).toInt = ((i + 1 : Nat) : Int) := by rw [add1 (b := 4) (by omega) (by omega), hx]; omega
    have i1 : (4 * y3 + x).toNatClampNeg = 4 * Fm 0 + i := clamp_toInt (by rw [iadd (imul (x := 4) cI4 h3 (by omega) (by omega)) hx (by omega) (by omega)]; omega)
    rw [F_X11_callChain_9_s]
    simp only [B_X11_callChain_9, F_X11_fail, nm, nmW, v10, v11, v52, w24, Option.getD_some, clamp_toInt h3, clamp_toInt hx, i1]
    rw [if_neg (by rw [ile, c3, hx]; omega), u2_ne d4, hJ mh i d4]
    by_cases h0 : F_X11_isOf (I o11 (4 * Fm 0 + i)) (J0 mh i) = 0
    · rw [if_pos h0]
      exact ⟨_, fun z j z1 => by rw [u2_ne z1]; exact hJ z j z1, Or.inr ⟨rfl, i, by omega, h0⟩⟩
    · rw [if_neg h0]
      refine ih f' (i + 1) (x + 1) (u2 J ma i (J0 mh i)) hx1 (by omega) (by omega) (fun z j z1 => by rw [u2_ne z1]; exact hJ z j z1) (fun j hj => ?_)
      by_cases e : j = i
      · rw [e, u2_at]; exact ⟨rfl, h0⟩
      · rw [u2_nk e]; exact hd j (by omega)
theorem callChainE (cx : ChM I R mo y10 o11 e12 hv cl cp ma mt n Fm ar pl Vp) (cy : ChN I R mo w13 f14 u15 t16 e12 y10 mf mh ma mt n (Fm n)) (hcar : CarM mo cv Vp I R) (hv' : ∀ k, k < n → Vp (I e12 (Fm (k + 1))) (I e12 (Fm k))) {x1 : Int32} {at_ : Nat} (hat : (3 * x1 + I f14 (Fm n)).toNatClampNeg = at_) {J : hJ} (hkv : ∀ s : Int32, J hv s.toNatClampNeg = kv s) :
    ∃ I1 J1 o, o = outA ar (fun k i => I o11 (4 * Fm k + i)) (fun k => I e12 (Fm k)) pl cv kv (J mh) n (wkM I w13 f14 u15 t16 e12 (Fm n) (ar n) (J mf at_)) ∧ F_X11_callChain mo x1 I J R = (if o.1.isSome = true then 0 else -7, (I1, J1, R)) ∧ (∀ z j, ¬ (z = mo ∧ (j = 26 ∨ j = 27 ∨ j = 28)) → I1 z j = I z j) ∧ (∀ z j, ¬ (z = mo ∧ (j = 31 ∨ j = 37 ∨ j = 54 ∨ j = 55 ∨ j = 25)) → z ≠ ma → z ≠ mt → ¬ (z = mf ∧ j = at_) → J1 z j = J z j) ∧ J1 mf at_ = o.2.getD (J mf at_) ∧ J1 mo 25 = o.1.getD (J mo 25) := by
  obtain ⟨⟨v10, v11, v12, v20, v50, v51, v52, v53⟩, ⟨u1, u2', u3, u4, u5, u6⟩, hn, hm, hpl⟩ := id cx
  obtain ⟨⟨w13', w14, w15, w16, w23, w24⟩, ⟨d1, d2, d3, d4, d5, d6⟩, h49, hm120, hk2, hr6⟩ := id cy
  obtain ⟨c1, c2, c3, c4⟩ := hm 0 (Nat.zero_le _)
  simp only [F_X11_callChain, nm, v50, Option.getD_some]
  rw [show (0 : Int32).toNatClampNeg = 0 by decide, show ((4 - Int32.toInt 0).toNat + 1) = 5 by decide]
  obtain ⟨J1, g1, g2⟩ := mhand_l (x1 := x1) (y3 := I cl 0) (z1 := I mo 49) cx cy c1 (J0 := J) (ar 0) 5 0 0 J (by decide) (by omega) (by omega) (fun _ _ _ => rfl) (fun j hj => by omega)
  rcases g2 with ⟨g2, g3⟩ | ⟨g2, g3⟩
  · have hh : ¬ ∃ i, i < ar 0 ∧ F_X11_isOf (I o11 (4 * Fm 0 + i)) (J mh i) = 0 := fun ⟨i, i1, i2⟩ => (g3 i i1).2 i2
    rw [g2]
    have e1 : J1 mf at_ = J mf at_ := g1 mf at_ (fun g => d2 g.symm)
    have e2 : J1 mo 25 = J mo 25 := g1 mo 25 (fun g => u2' g.symm)
    obtain ⟨I2, J2, o, b1, b2, b3, b4, b5, b6⟩ := mch_l (x1 := x1) (y3 := I cl 0) (z1 := I mo 49) (at_ := at_) cx cy hcar hv' hat (J0 := J1) (kv := kv) (fun s => by rw [g1 hv _ u5]; exact hkv s) (hd := J mh) hh n 11 0 1 J1 (J mh) (by decide) (by omega) (by omega) (fun _ _ _ _ _ => rfl) rfl (fun i hi => (g3 i hi).1)
    rw [e1] at b1 b5
    rw [e2] at b6
    exact ⟨I2, J2, o, b1, b2, b3, fun z j z1 z2 z3 z4 => by rw [b4 z j z1 z2 z3 z4]; exact g1 z j z2, b5, b6⟩
  · rw [g2]
    refine ⟨_, J1, _, rfl, by rw [outA_hand g3]; rfl, fun z j z1 => ?_, fun z j _ z2 _ _ => g1 z j z2, by rw [outA_hand g3]; exact g1 mf at_ (fun g => d2 g.symm), by rw [outA_hand g3]; exact g1 mo 25 (fun g => u2' g.symm)⟩
    unfold failM
    rw [u2_off (fun g => z1 ⟨g.1, by omega⟩), u2_off (fun g => z1 ⟨g.1, by omega⟩), u2_off (fun g => z1 ⟨g.1, by omega⟩)]
end CALLM
