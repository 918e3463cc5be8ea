/-! values along a chain, in the model -/
def failM (I : hI) (mo : Nat) (w e : Int32) : hI := u2 (u2 (u2 I mo 26 1) mo 27 w) mo 28 e
def CarM (mo : Nat) (cv : Int32 → Int32 → Int64 → Nat ⊕ Int64) (Vp : Int32 → Int32 → Prop) (I : hI) (R : hR) : Prop :=
  ∀ (J : hJ) (x y : Int32) (v : Int64) (xw : Int32), Vp x y → ∃ J1, (∀ z q, ¬ (z = mo ∧ (q = 31 ∨ q = 37)) → J1 z q = J z q) ∧ ((∃ w, cv x y v = Sum.inr w ∧ F_X11_turnIt mo x y v xw I J R = (1, (I, J1, R)) ∧ J1 mo 37 = w) ∨ (∃ e : Nat, cv x y v = Sum.inl e ∧ ∃ xe : Int32, xe.toInt = e ∧ F_X11_turnIt mo x y v xw I J R = (0, (failM I mo xw xe, J1, R))))
/-- what the chain holds -/
def ChM (I : hI) (R : hR) (mo y10 o11 e12 hv cl cp ma mt n : Nat) (Fm ar : Nat → Nat) (pl : Nat → Nat → Nat) (Vp : Int32 → Int32 → Prop) : Prop :=
  (R mo 10 = some y10 ∧ R mo 11 = some o11 ∧ R mo 12 = some e12 ∧ R mo 20 = some hv ∧ R mo 50 = some cl ∧ R mo 51 = some cp ∧ R mo 52 = some ma ∧ R mo 53 = some mt) ∧ (hv ≠ mo ∧ ma ≠ mo ∧ mt ≠ mo ∧ ma ≠ mt ∧ hv ≠ ma ∧ hv ≠ mt) ∧ n ≤ 10 ∧
  (∀ k, k ≤ n → (I cl k).toInt = Fm k ∧ Fm k < 120 ∧ (I y10 (Fm k)).toInt = ar k ∧ ar k ≤ 4) ∧
  (∀ k, k < n → ∀ i, i < ar (k + 1) → (I cp (4 * (k + 1) + i)).toInt = pl k i ∧ (pl k i = 4 ∨ (pl k i < ar k ∧ Vp (I o11 (4 * Fm k + pl k i)) (I o11 (4 * Fm (k + 1) + i)))))
section PASSM
variable {I : hI} {R : hR} {mo y10 o11 e12 hv cl cp ma mt n : Nat} {Fm ar : Nat → Nat} {pl : Nat → Nat → Nat} {cv : Int32 → Int32 → Int64 → Nat ⊕ Int64} {Vp : Int32 → Int32 → Prop} {kv : Int32 → Int64}
theorem goCp_l (v10 : R mo 10 = some y10) (v52 : R mo 52 = some ma) (v53 : R mo 53 = some mt) (ne : ma ≠ mt) {x1 y4 y3 y2 : Int32} {b1 m c : Nat} (hc : y4.toInt = c) (hn : (I y10 c).toInt = m) (hm4 : m ≤ 4) {J0 : hJ} :
    ∀ (r f i : Nat) (x : Int32) (J : hJ), x.toInt = i → i + r = m → r < f → (∀ z j, z ≠ ma → J z j = J0 z j) → (∀ j, j < i → J ma j = J0 mt j) → ∃ J1, F_X11_goIn_129 mo x1 y4 y3 b1 y2 f I J R x = (1, (I, J1, R)) ∧ (∀ z j, z ≠ ma → J1 z j = J0 z j) ∧ ∀ j, j < m → J1 ma j = J0 mt j := by
  intro r
  induction r with
  | zero =>
    intro f i x J hx hr hf hJ hd
    obtain ⟨f', rfl⟩ : ∃ f', f = f' + 1 := ⟨f - 1, by omega⟩
    rw [F_X11_goIn_129_s]
    simp only [B_X11_goIn_129, nm, v10, Option.getD_some, clamp_toInt hc]
    rw [if_pos (by rw [ile, hn, hx]; omega)]
    exact ⟨J, rfl, hJ, fun j hj => hd j (by omega)⟩
  | succ r ih =>
    intro f i x J hx hr hf hJ hd
    obtain ⟨f', rfl⟩ : ∃ f', f = f' + 1 := ⟨f - 1, by omega⟩
    rw [F_X11_goIn_129_s]
    simp only [B_X11_goIn_129, nm, v10, v52, v53, Option.getD_some, clamp_toInt hc, clamp_toInt hx]
    rw [if_neg (by rw [ile, hn, hx]; omega)]
    refine ih f' (i + 1) (x + 1) (u2 J ma i (J mt i)) (by rw [add1 (b := 4) (by omega) (by omega), hx]; omega) (by omega) (by omega) (fun z j z1 => by rw [u2_ne z1]; exact hJ z j z1) (fun j hj => ?_)
    by_cases e : j = i
    · rw [e, u2_at]; exact hJ mt i (fun g => ne g.symm)
    · rw [u2_nk e]; exact hd j (by omega)
theorem goIn_l (cx : ChM I R mo y10 o11 e12 hv cl cp ma mt n Fm ar pl Vp) (hcar : CarM mo cv Vp I R) {k : Nat} (hk : k < n) {x1 y4 y3 y2 : Int32} {b1 : Nat} (hx1 : x1.toInt = ((k + 1 : Nat) : Int)) (h4 : y4.toInt = Fm (k + 1)) (h3 : y3.toInt = Fm k) {J0 : hJ} (hkv : ∀ s : Int32, J0 hv s.toNatClampNeg = kv s) :
    ∀ (r f i : Nat) (x : Int32) (J : hJ), x.toInt = i → i + r = ar (k + 1) → r < f → (∀ z j, ¬ (z = mo ∧ (j = 31 ∨ j = 37)) → z ≠ mt → J z j = J0 z j) → (∀ j, j < i → evA (fun k i => I o11 (4 * Fm k + i)) pl cv kv k (J0 ma) j = Sum.inr (J mt j)) →
      ∃ J1, (∀ z j, ¬ (z = mo ∧ (j = 31 ∨ j = 37)) → z ≠ mt → z ≠ ma → J1 z j = J0 z j) ∧ ((F_X11_goIn_19 mo x1 y4 y3 b1 y2 f I J R x = (1, (I, J1, R)) ∧ ∀ j, j < ar (k + 1) → evA (fun k i => I o11 (4 * Fm k + i)) pl cv kv k (J0 ma) j = Sum.inr (J1 ma j)) ∨ (∃ (e : Nat) (xe : Int32), F_X11_goIn_19 mo x1 y4 y3 b1 y2 f I J R x = (0, (failM I mo 1 xe, J1, R)) ∧ fE (evA (fun k i => I o11 (4 * Fm k + i)) pl cv kv k (J0 ma)) (ar (k + 1)) = some e ∧ xe.toInt = e)) := by
  obtain ⟨⟨v10, v11, v12, v20, v50, v51, v52, v53⟩, ⟨u1, u2', u3, u4, u5, u6⟩, hn, hm, hpl⟩ := id cx
  obtain ⟨a1, a2, a3, a4⟩ := hm k (by omega)
  obtain ⟨c1, c2, c3, c4⟩ := hm (k + 1) (by omega)
  intro r
  induction r with
  | zero =>
    intro f i x J hx hr hf hJ hd
    obtain ⟨f', rfl⟩ : ∃ f', f = f' + 1 := ⟨f - 1, by omega⟩
    rw [F_X11_goIn_19_s]
    simp only [B_X11_goIn_19, nm, v10, Option.getD_some, clamp_toInt h4]
    rw [if_pos (by rw [ile, c3, hx]; omega), show ((4 - Int32.toInt 0).toNat + 1) = 5 by decide]
    obtain ⟨J1, g1, g2, g3⟩ := goCp_l (x1 := x1) (y3 := y3) (y2 := y2) (b1 := b1) v10 v52 v53 u4 h4 c3 c4 (J0 := J) (ar (k + 1)) 5 0 0 J (by decide) (by omega) (by omega) (fun _ _ _ => rfl) (fun j hj => by omega)
    exact ⟨J1, fun z j z1 z2 z3 => by rw [g2 z j z3]; exact hJ z j z1 z2, Or.inl ⟨g1, fun j hj => by rw [g3 j hj]; exact hd j (by omega)⟩⟩
  | succ r ih =>
    intro f i x J hx hr hf hJ hd
    obtain ⟨f', rfl⟩ : ∃ f', f = f' + 1 := ⟨f - 1, by omega⟩
    obtain ⟨g1, g2⟩ := hpl k hk i (by omega)
    have hx' : (x + 1).toInt = ((i + 1 : Nat) : Int) := by rw [add1 (b := 4) (by omega) (by omega), hx]; omega
    have i1 : (4 * y4 + x).toNatClampNeg = 4 * Fm (k + 1) + i := clamp_toInt (by rw [iadd (imul (x := 4) cI4 h4 (by omega) (by omega)) hx (by omega) (by omega)]; omega)
    have i2 : (4 * x1 + x).toNatClampNeg = 4 * (k + 1) + i := clamp_toInt (by rw [iadd (imul (x := 4) cI4 hx1 (by omega) (by omega)) hx (by omega) (by omega)]; omega)
    have hp4 : pl k i ≤ 4 := by rcases g2 with h | ⟨h, -⟩ <;> omega
    have i3 : (4 * y3 + I cp (4 * (k + 1) + i)).toNatClampNeg = 4 * Fm k + pl k i := clamp_toInt (by rw [iadd (imul (x := 4) cI4 h3 (by omega) (by omega)) g1 (by omega) (by omega)]; omega)
    rw [F_X11_goIn_19_s]
    simp only [B_X11_goIn_19, F_X11_goIn_120, nm, nmU, v10, v11, v20, v51, v52, v53, Option.getD_some, clamp_toInt h4, clamp_toInt hx, i1, i2, i3, clamp_toInt g1]
    rw [if_neg (by rw [ile, c3, hx]; omega)]
    by_cases h4' : pl k i = 4
    · rw [if_pos (show I cp (4 * (k + 1) + i) = 4 by rw [ieq, g1, h4']; decide)]
      have ev : evA (fun k i => I o11 (4 * Fm k + i)) pl cv kv k (J0 ma) i = Sum.inr (kv (I o11 (4 * Fm (k + 1) + i))) := by unfold evA; rw [if_pos h4']
      refine ih f' (i + 1) (x + 1) _ hx' (by omega) (by omega) (fun z j z1 z2 => by rw [u2_ne z2]; exact hJ z j z1 z2) (fun j hj => ?_)
      by_cases e : j = i
      · rw [e, ev, u2_at, hJ hv _ (fun g => u1 g.1) u6, hkv]
      · rw [u2_nk e]; exact hd j (by omega)
    · obtain ⟨g3, g4⟩ := g2.resolve_left h4'
      rw [if_neg (show ¬ I cp (4 * (k + 1) + i) = 4 by rw [ieq, g1, cI4]; omega), hJ ma _ (fun g => u2' g.1) u4]
      have ev : evA (fun k i => I o11 (4 * Fm k + i)) pl cv kv k (J0 ma) i = cv (I o11 (4 * Fm k + pl k i)) (I o11 (4 * Fm (k + 1) + i)) (J0 ma (pl k i)) := by unfold evA; rw [if_neg h4']
      obtain ⟨J1, d2, d3⟩ := hcar J (I o11 (4 * Fm k + pl k i)) (I o11 (4 * Fm (k + 1) + i)) (J0 ma (pl k i)) 1 g4
      rcases d3 with ⟨z, z1, z2, z3⟩ | ⟨e, z1, xe, z3, z2⟩
      · rw [z2]
        dsimp only
        rw [if_neg (show ¬ (1 : Int32) = 0 by decide)]
        refine ih f' (i + 1) (x + 1) (u2 J1 mt i (J1 mo 37)) hx' (by omega) (by omega) (fun z j y1 y2 => by rw [u2_ne y2, d2 z j y1]; exact hJ z j y1 y2) (fun j hj => ?_)
        by_cases e : j = i
        · rw [e, ev, u2_at, z1, z3]
        · rw [u2_nk e, d2 mt j (fun g => u3 g.1)]; exact hd j (by omega)
      · rw [z2]
        dsimp only
        rw [if_pos rfl]
        exact ⟨J1, fun z j y1 y2 _ => by rw [d2 z j y1]; exact hJ z j y1 y2, Or.inr ⟨e, xe, rfl, fE_first (fun j hj => ⟨_, hd j hj⟩) (ev.trans z1) _ (by omega), z3⟩⟩
theorem back_lM (cx : ChM I R mo y10 o11 e12 hv cl cp ma mt n Fm ar pl Vp) (hcar : CarM mo cv Vp I R) (hv' : ∀ k, k < n → Vp (I e12 (Fm (k + 1))) (I e12 (Fm k))) {x1 y3 z1 : Int32} {J0 : hJ} :
    ∀ (k f : Nat) (x : Int32) (J : hJ), x.toInt = k → k ≤ n → k < f → (∀ z j, ¬ (z = mo ∧ (j = 31 ∨ j = 37 ∨ j = 54)) → J z j = J0 z j) →
      ∃ J1, (∀ z j, ¬ (z = mo ∧ (j = 31 ∨ j = 37 ∨ j = 54 ∨ j = 25)) → J1 z j = J0 z j) ∧ ((∃ z, backA (fun k => I e12 (Fm k)) cv k (J mo 54) = Sum.inr z ∧ F_X11_callChain_130 mo x1 y3 z1 cl f I J R x = (0, (I, J1, R)) ∧ J1 mo 25 = z) ∨ (∃ (e : Nat) (xe : Int32), backA (fun k => I e12 (Fm k)) cv k (J mo 54) = Sum.inl e ∧ xe.toInt = e ∧ F_X11_callChain_130 mo x1 y3 z1 cl f I J R x = (-7, (failM I mo 3 xe, J1, R)) ∧ J1 mo 25 = J0 mo 25)) := by
  obtain ⟨⟨v10, v11, v12, v20, v50, v51, v52, v53⟩, -, hn, hm, hpl⟩ := id cx
  intro k
  induction k with
  | zero =>
    intro f x J hx hk hf hJ
    obtain ⟨f', rfl⟩ : ∃ f', f = f' + 1 := ⟨f - 1, by omega⟩
    rw [F_X11_callChain_130_s]
    simp only [B_X11_callChain_130, nm]
    rw [if_pos (by rw [ile, hx, cI0]; omega)]
    exact ⟨_, fun z j z1 => by rw [u2_off (fun g => z1 ⟨g.1, by omega⟩)]; exact hJ z j (fun g => z1 ⟨g.1, by omega⟩), Or.inl ⟨_, rfl, rfl, by rw [u2_at]⟩⟩
  | succ k ih =>
    intro f x J hx hk hf hJ
    obtain ⟨f', rfl⟩ : ∃ f', f = f' + 1 := ⟨f - 1, by omega⟩
    have hxm : (x - 1).toInt = (k : Int) := by rw [isub hx cI1 (by omega) (by omega)]; omega
    have hxm' : (x + -1).toInt = (k : Int) := by rw [iadd hx cIm1 (by omega) (by omega)]; omega
    obtain ⟨a1, a2, a3, a4⟩ := hm k (by omega)
    obtain ⟨c1, c2, c3, c4⟩ := hm (k + 1) (by omega)
    rw [F_X11_callChain_130_s]
    simp only [B_X11_callChain_130, nm, nmU, v12, Option.getD_some, clamp_toInt hx, clamp_toInt hxm, clamp_toInt a1, clamp_toInt c1]
    rw [if_neg (by rw [ile, hx, cI0]; omega)]
    obtain ⟨J1, d2, d3⟩ := hcar J (I e12 (Fm (k + 1))) (I e12 (Fm k)) (J mo 54) 3 (hv' k (by omega))
    rcases d3 with ⟨z, z1', z2, z3⟩ | ⟨e, z1', xe, z3, z2⟩
    · rw [z2]
      dsimp only
      rw [if_neg (show ¬ (1 : Int32) = 0 by decide)]
      have := ih f' (x + -1) (u2 J1 mo 54 (J1 mo 37)) hxm' (by omega) (by omega) (fun z j y1 => by rw [u2_off (fun g => y1 ⟨g.1, by omega⟩), d2 z j (fun g => y1 ⟨g.1, by omega⟩)]; exact hJ z j y1)
      rw [u2_at, z3] at this
      simp only [backA, z1']
      rw [z3]
      exact this
    · rw [z2]
      dsimp only
      rw [if_pos rfl]
      simp only [backA, z1']
      exact ⟨J1, fun z j y1 => by rw [d2 z j (fun g => y1 ⟨g.1, by omega⟩)]; exact hJ z j (fun g => y1 ⟨g.1, by omega⟩), Or.inr ⟨e, xe, rfl, z3, rfl, by rw [d2 mo 25 (fun g => by omega)]; exact hJ mo 25 (fun g => by omega)⟩⟩
end PASSM
