/-! values along a chain, in the class -/
def CarC (ru : Nat) (cv : Int32 → Int32 → Int64 → Nat ⊕ Int64) (Vp : Int32 → Int32 → Prop) (I0 : hI) (R : hR) : Prop :=
  ∀ (I : hI) (J : hJ) (R' : hR) (x y : Int32) (v : Int64), (∀ z q, ¬ (z = ru ∧ q = 11) → I z q = I0 z q) → (∀ q, R' ru q = R ru q) → Vp x y → ∃ I1 J1, (∀ z q, ¬ (z = ru ∧ q = 11) → I1 z q = I0 z q) ∧ (∀ z q, ¬ (z = ru ∧ q = 10) → J1 z q = J z q) ∧ ((∃ w, cv x y v = Sum.inr w ∧ F_X6_carry ru x y v I J R' = (1, (I1, J1, R')) ∧ J1 ru 10 = w) ∨ (∃ e : Nat, cv x y v = Sum.inl e ∧ F_X6_carry ru x y v I J R' = (0, (I1, J1, R')) ∧ (I1 ru 11).toInt = e))
section PASS
variable {I0 : hI} {R : hR} {kc ru co cvl ch kp la n : Nat} {cm css : Nat → Nat} {ar : Nat → Nat} {pl : Nat → Nat → Nat} {cv : Int32 → Int32 → Int64 → Nat ⊕ Int64} {Vp : Int32 → Int32 → Prop} {kv : Int32 → Int64}
/-- what the chain holds -/
def ChC (I0 : hI) (R : hR) (kc ru co cvl ch kp la n : Nat) (cm css ar : Nat → Nat) (pl : Nat → Nat → Nat) (Vp : Int32 → Int32 → Prop) : Prop :=
  (R kc 0 = some ru ∧ R kc 1 = some co ∧ R co 1 = some cvl ∧ R kc 3 = some la ∧ R kc 5 = some ch ∧ R kc 6 = some kp) ∧ (cvl ≠ ru ∧ kp ≠ ru ∧ kc ≠ ru ∧ la ≠ ru ∧ la ≠ kc ∧ co ≠ kc ∧ ch ≠ kc ∧ cvl ≠ kc) ∧ n ≤ 10 ∧
  (∀ k, k ≤ n → R ch k = some (cm k) ∧ R (cm k) 3 = some (css k) ∧ (I0 (cm k) 2).toInt = ar k ∧ ar k ≤ 4 ∧ cm k ≠ ru ∧ css k ≠ ru ∧ cm k ≠ kc ∧ css k ≠ kc ∧ cm k ≠ la ∧ css k ≠ la) ∧
  (∀ k, k < n → ∀ i, i < ar (k + 1) → I0 kp (4 * k + i) = cdg (pl k i) ∧ (pl k i = 4 ∨ (pl k i < ar k ∧ Vp (I0 (css k) (pl k i)) (I0 (css (k + 1)) i))))
theorem passTo_l (cx : ChC I0 R kc ru co cvl ch kp la n cm css ar pl Vp) (hcar : CarC ru cv Vp I0 R) {R' : hR} {p q k : Nat} (hk : k < n) (hR : ∀ z j, ¬ (z = kc ∧ (j = 8 ∨ j = 9)) → R' z j = R z j) (vp : R' kc 8 = some p) (vq : R' kc 9 = some q) (hpq : p ≠ q) (hp : p ≠ ru ∧ q ≠ ru ∧ cvl ≠ q) {x1 y3 : Int32} {b1 : Nat} (hx1 : x1.toInt = k) {J0 : hJ} (hkv : ∀ s : Int32, J0 cvl s.toNatClampNeg = kv s) :
    ∀ (r f i : Nat) (x : Int32) (I : hI) (J : hJ), x.toInt = i → i + r = ar (k + 1) → r < f → (∀ z j, ¬ (z = ru ∧ j = 11) → I z j = I0 z j) → (∀ z j, ¬ (z = ru ∧ j = 10) → z ≠ q → J z j = J0 z j) → (∀ j, j < i → evA (fun k i => I0 (css k) i) pl cv kv k (J0 p) j = Sum.inr (J q j)) →
      ∃ I1 J1, (∀ z j, ¬ (z = ru ∧ j = 11) → I1 z j = I0 z j) ∧ (∀ z j, ¬ (z = ru ∧ j = 10) → z ≠ q → J1 z j = J0 z j) ∧ ((F_X1_passTo_19 kc x1 (cm (k + 1)) (cm k) b1 y3 f I J R' x = (1, (I1, J1, R')) ∧ ∀ j, j < ar (k + 1) → evA (fun k i => I0 (css k) i) pl cv kv k (J0 p) j = Sum.inr (J1 q j)) ∨ (F_X1_passTo_19 kc x1 (cm (k + 1)) (cm k) b1 y3 f I J R' x = (0, (I1, J1, R')) ∧ ∃ e : Nat, fE (evA (fun k i => I0 (css k) i) pl cv kv k (J0 p)) (ar (k + 1)) = some e ∧ (I1 ru 11).toInt = e)) := by
  obtain ⟨⟨v0, v1, vc, v3, v5, v6⟩, ⟨u1, u2', u3, u4, u5, u6, u7, u8⟩, hn, hm, hpl⟩ := id cx
  obtain ⟨a1, a2, a3, a4, a5, a6, a7, a8, a9, a10⟩ := hm k (by omega)
  obtain ⟨c1, c2, c3, c4, c5, c6, c7, c8, c9, c10⟩ := hm (k + 1) (by omega)
  have w : ∀ z j, z ≠ kc → R' z j = R z j := fun z j h => hR z j (fun g => h g.1)
  have wk : ∀ j, j ≠ 8 → j ≠ 9 → R' kc j = R kc j := fun j h1 h2 => hR kc j (fun g => by omega)
  intro r
  induction r with
  | zero =>
    intro f i x I J hx hr hf hI hJ hd
    obtain ⟨f', rfl⟩ : ∃ f', f = f' + 1 := ⟨f - 1, by omega⟩
    rw [F_X1_passTo_19_s]
    simp only [B_X1_passTo_19, nm]
    rw [hI (cm (k + 1)) 2 (fun g => c5 g.1), if_pos (by rw [ile, c3, hx]; omega)]
    exact ⟨I, J, hI, hJ, Or.inl ⟨rfl, fun j hj => hd j (by omega)⟩⟩
  | succ r ih =>
    intro f i x I J hx hr hf hI hJ hd
    obtain ⟨f', rfl⟩ : ∃ f', f = f' + 1 := ⟨f - 1, by omega⟩
    obtain ⟨g1, g2⟩ := hpl k hk i (by omega)
    have ix : (x1 * 4 + x).toNatClampNeg = 4 * k + i := clamp_toInt (by rw [iadd (imul (y := 4) hx1 cI4 (by omega) (by omega)) hx (by omega) (by omega)]; omega)
    have hx' : (x + 1).toInt = ((i + 1 : Nat) : Int) := by rw [add1 (b := 4) (by omega) (by omega), hx]; omega
    rw [F_X1_passTo_19_s]
    simp only [B_X1_passTo_19, nm, nmU, wk 6 (by decide) (by decide), wk 1 (by decide) (by decide), wk 0 (by decide) (by decide), vp, vq, v6, v1, v0, w co 1 u6, vc, w (cm k) 3 a7, w (cm (k + 1)) 3 c7, a2, c2, Option.getD_some, ix, clamp_toInt hx]
    rw [hI (cm (k + 1)) 2 (fun g => c5 g.1), if_neg (by rw [ile, c3, hx]; omega), hI kp _ (fun g => u2' g.1), g1, hI (css (k + 1)) i (fun g => c6 g.1)]
    by_cases h4 : pl k i = 4
    · rw [if_pos (show cdg (pl k i) = 9 by unfold cdg; rw [if_pos h4])]
      have ev : evA (fun k i => I0 (css k) i) pl cv kv k (J0 p) i = Sum.inr (kv (I0 (css (k + 1)) i)) := by unfold evA; rw [if_pos h4]
      refine ih f' (i + 1) (x + 1) I (u2 J q i (J cvl (I0 (css (k + 1)) i).toNatClampNeg)) hx' (by omega) (by omega) hI (fun z j z1 z2 => by rw [u2_ne z2]; exact hJ z j z1 z2) (fun j hj => ?_)
      by_cases e : j = i
      · rw [e, ev, u2_at, hJ cvl _ (fun g => u1 g.1) hp.2.2, hkv]
      · rw [u2_nk e]; exact hd j (by omega)
    · obtain ⟨g3, g4⟩ := g2.resolve_left h4
      have e9 : ¬ cdg (pl k i) = 9 := by
        unfold cdg
        rw [if_neg h4, ieq, Int32.toInt_ofNat_of_lt (by omega), show Int32.toInt 9 = 9 by decide]
        omega
      have ecl : (cdg (pl k i)).toNatClampNeg = pl k i := by
        unfold cdg
        rw [if_neg h4]
        exact clamp_toInt (Int32.toInt_ofNat_of_lt (by omega))
      rw [if_neg e9, ecl, hI (css k) _ (fun g => a6 g.1), hJ p _ (fun g => hp.1 g.1) hpq]
      have ev : evA (fun k i => I0 (css k) i) pl cv kv k (J0 p) i = cv (I0 (css k) (pl k i)) (I0 (css (k + 1)) i) (J0 p (pl k i)) := by unfold evA; rw [if_neg h4]
      obtain ⟨I1, J1, d1, d2, d3⟩ := hcar I J R' (I0 (css k) (pl k i)) (I0 (css (k + 1)) i) (J0 p (pl k i)) hI (fun j => w ru j (fun g => u3 g.symm)) g4
      rcases d3 with ⟨z, z1, z2, z3⟩ | ⟨e, z1, z2, z3⟩
      · rw [z2]
        dsimp only
        rw [if_neg (show ¬ (1 : Int32) = 0 by decide)]
        refine ih f' (i + 1) (x + 1) I1 (u2 J1 q i (J1 ru 10)) hx' (by omega) (by omega) d1 (fun z j y1 y2 => by rw [u2_ne y2, d2 z j y1]; exact hJ z j y1 y2) (fun j hj => ?_)
        by_cases e : j = i
        · rw [e, ev, u2_at, z1, z3]
        · rw [u2_nk e, d2 q j (fun g => hp.2.1 g.1)]; exact hd j (by omega)
      · rw [z2]
        dsimp only
        rw [if_pos rfl]
        exact ⟨I1, J1, d1, fun z j y1 y2 => by rw [d2 z j y1]; exact hJ z j y1 y2, Or.inr ⟨rfl, e, fE_first (fun j hj => ⟨_, hd j hj⟩) (ev.trans z1) _ (by omega), z3⟩⟩
theorem passIn_l (cx : ChC I0 R kc ru co cvl ch kp la n cm css ar pl Vp) (hcar : CarC ru cv Vp I0 R) (hl : (I0 kc 7).toInt = n) {a8 a9 : Nat} (n89 : a8 ≠ a9) (hne : a8 ≠ ru ∧ a9 ≠ ru ∧ cvl ≠ a8 ∧ cvl ≠ a9) {J0 : hJ} (hkv : ∀ s : Int32, J0 cvl s.toNatClampNeg = kv s) {hd : Nat → Int64} :
    ∀ (r f k : Nat) (x : Int32) (I : hI) (J : hJ) (R' : hR) (p q : Nat) (a : Nat → Int64), x.toInt = k → k + r = n → r < f → (∀ z j, ¬ (z = ru ∧ j = 11) → I z j = I0 z j) → (∀ z j, ¬ (z = ru ∧ j = 10) → z ≠ a8 → z ≠ a9 → J z j = J0 z j) → (∀ z j, ¬ (z = kc ∧ (j = 8 ∨ j = 9)) → R' z j = R z j) → R' kc 8 = some p → R' kc 9 = some q → ((p = a8 ∧ q = a9) ∨ (p = a9 ∧ q = a8)) → runA ar (fun k i => I0 (css k) i) pl cv kv hd k = Sum.inr a → (∀ i, i < ar k → J p i = a i) →
      ∃ I1 J1 R1, (∀ z j, ¬ (z = ru ∧ j = 11) → ¬ (z = la ∧ (j = 1 ∨ j = 2)) → I1 z j = I0 z j) ∧ (∀ z j, ¬ (z = ru ∧ j = 10) → z ≠ a8 → z ≠ a9 → J1 z j = J0 z j) ∧ (∀ z j, ¬ (z = kc ∧ (j = 8 ∨ j = 9)) → R1 z j = R z j) ∧ ((∃ a' p' q', runA ar (fun k i => I0 (css k) i) pl cv kv hd n = Sum.inr a' ∧ F_X1_passIn_2 kc f I J R' x = (1, (I1, J1, R1)) ∧ (∀ z j, ¬ (z = ru ∧ j = 11) → I1 z j = I0 z j) ∧ R1 kc 8 = some p' ∧ R1 kc 9 = some q' ∧ ((p' = a8 ∧ q' = a9) ∨ (p' = a9 ∧ q' = a8)) ∧ ∀ i, i < ar n → J1 p' i = a' i) ∨
        (∃ e : Nat, runA ar (fun k i => I0 (css k) i) pl cv kv hd n = Sum.inl e ∧ F_X1_passIn_2 kc f I J R' x = (0, (I1, J1, R1)) ∧ (I1 la 1).toInt = 1 ∧ (I1 la 2).toInt = e ∧ ∃ p' q', R1 kc 8 = some p' ∧ R1 kc 9 = some q' ∧ ((p' = a8 ∧ q' = a9) ∨ (p' = a9 ∧ q' = a8)))) := by
  obtain ⟨⟨v0, v1, vc, v3, v5, v6⟩, ⟨u1, u2', u3, u4, u5, u6, u7, u8⟩, hn, hm, hpl⟩ := id cx
  intro r
  induction r with
  | zero =>
    intro f k x I J R' p q a hx hr hf hI hJ hR hp hq hpq hrun ha
    obtain ⟨f', rfl⟩ : ∃ f', f = f' + 1 := ⟨f - 1, by omega⟩
    obtain rfl : k = n := by omega
    rw [F_X1_passIn_2_s]
    simp only [B_X1_passIn_2, nm]
    rw [hI kc 7 (fun g => u3 g.1), if_pos (by rw [ile, hl, hx]; omega)]
    exact ⟨I, J, R', fun z j z1 _ => hI z j z1, hJ, hR, Or.inl ⟨a, p, q, hrun, rfl, hI, hp, hq, hpq, ha⟩⟩
  | succ r ih =>
    intro f k x I J R' p q a hx hr hf hI hJ hR hp hq hpq hrun ha
    obtain ⟨f', rfl⟩ : ∃ f', f = f' + 1 := ⟨f - 1, by omega⟩
    have hk : k < n := by omega
    have wk : ∀ j, j ≠ 8 → j ≠ 9 → R' kc j = R kc j := fun j h1 h2 => hR kc j (fun g => by omega)
    have w : ∀ z j, z ≠ kc → R' z j = R z j := fun z j h => hR z j (fun g => h g.1)
    have hx1 : (x + 1).toInt = ((k + 1 : Nat) : Int) := by rw [add1 (b := 10) (by omega) (by omega), hx]; omega
    have pq : p ≠ q := by rcases hpq with ⟨e1, e2⟩ | ⟨e1, e2⟩ <;> rw [e1, e2]; exact n89; exact fun e => n89 e.symm
    have prq : p ≠ ru ∧ q ≠ ru ∧ cvl ≠ q := by rcases hpq with ⟨e1, e2⟩ | ⟨e1, e2⟩ <;> rw [e1, e2]; exact ⟨hne.1, hne.2.1, hne.2.2.2⟩; exact ⟨hne.2.1, hne.1, hne.2.2.1⟩
    have q89 : q = a8 ∨ q = a9 := by rcases hpq with ⟨e1, e2⟩ | ⟨e1, e2⟩; exact Or.inr e2; exact Or.inl e2
    have e0 : F_X1_passTo kc x I J R' = F_X1_passTo_19 kc x (cm (k + 1)) (cm k) ch (x + 1) 5 I J R' 0 := by
      simp only [F_X1_passTo, nm, nmU, nmW]
      rw [wk 5 (by decide) (by decide), v5]
      simp only [Option.getD_some, clamp_toInt hx, clamp_toInt hx1, w ch _ u7]
      rw [(hm k (by omega)).1, (hm (k + 1) (by omega)).1]
      simp only [Option.getD_some]
      rw [show ((4 - Int32.toInt 0).toNat + 1) = 5 by decide]
    rw [F_X1_passIn_2_s]
    simp only [B_X1_passIn_2, F_X4_noteFailure, nm, nmU, nmW]
    rw [hI kc 7 (fun g => u3 g.1), if_neg (by rw [ile, hl, hx]; omega), e0]
    obtain ⟨I1, J1, d1, d2, d3⟩ := passTo_l (kv := kv) (y3 := x + 1) (b1 := ch) cx hcar hk hR hp hq pq prq hx (J0 := J) (fun s => by rw [hJ cvl _ (fun g => u1 g.1) hne.2.2.1 hne.2.2.2]; exact hkv s) (ar (k + 1)) 5 0 0 I J (by decide) (by omega) (by have := (hm (k + 1) (by omega)).2.2.2.1; omega) hI (fun _ _ _ _ => rfl) (fun j hj => by omega)
    have evc : ∀ j, j < ar (k + 1) → evA (fun k i => I0 (css k) i) pl cv kv k (J p) j = evA (fun k i => I0 (css k) i) pl cv kv k a j := fun j hj => by
      unfold evA
      by_cases h4 : pl k j = 4
      · rw [if_pos h4, if_pos h4]
      · rw [if_neg h4, if_neg h4, ha _ (((hpl k hk j hj).2.resolve_left h4).1)]
    have hJ1 : ∀ z j, ¬ (z = ru ∧ j = 10) → z ≠ a8 → z ≠ a9 → J1 z j = J0 z j := fun z j z1 z2 z3 => by
      rw [d2 z j z1 (fun e => by rcases q89 with h | h; exact z2 (e.trans h); exact z3 (e.trans h))]; exact hJ z j z1 z2 z3
    rcases d3 with ⟨z1, z2⟩ | ⟨z1, e, z2, z3⟩
    · rw [z1]
      dsimp only
      rw [if_neg (show ¬ (1 : Int32) = 0 by decide), hp, hq]
      simp only [Option.getD_some]
      have hrun1 : runA ar (fun k i => I0 (css k) i) pl cv kv hd (k + 1) = Sum.inr (vE (evA (fun k i => I0 (css k) i) pl cv kv k a)) := by
        have e0 : fE (evA (fun k i => I0 (css k) i) pl cv kv k a) (ar (k + 1)) = none := fE_all _ (fun j hj => ⟨_, (evc j hj).symm.trans (z2 j hj)⟩)
        simp only [runA, hrun, e0]
      refine ih f' (k + 1) (x + 1) I1 J1 (u2 (u2 R' kc 8 (some q)) kc 9 (some p)) q p _ hx1 (by omega) (by omega) d1 hJ1 (fun z j z1 => ?_) (by rw [u2_nk (by decide), u2_at]) (by rw [u2_at]) (by rcases hpq with ⟨e1, e2⟩ | ⟨e1, e2⟩; exact Or.inr ⟨e2, e1⟩; exact Or.inl ⟨e2, e1⟩) hrun1 (fun i hi => ?_)
      · rw [u2_off (fun g => z1 ⟨g.1, Or.inr g.2⟩), u2_off (fun g => z1 ⟨g.1, Or.inl g.2⟩)]; exact hR z j z1
      · rw [vE_r ((evc i hi).symm.trans (z2 i hi))]
    · rw [z1]
      dsimp only
      rw [if_pos rfl, wk 3 (by decide) (by decide), wk 0 (by decide) (by decide), v3, v0]
      simp only [Option.getD_some]
      have hrun1 : ∀ m, k + 1 ≤ m → runA ar (fun k i => I0 (css k) i) pl cv kv hd m = Sum.inl e := by
        intro m
        induction m with
        | zero => intro h; omega
        | succ m ihm =>
          intro h
          by_cases g : m = k
          · rw [g]
            have e0 : fE (evA (fun k i => I0 (css k) i) pl cv kv k a) (ar (k + 1)) = some e := by rw [← z2]; exact fE_congr _ (fun j hj => (evc j hj).symm)
            simp only [runA, hrun, e0]
          · simp only [runA, ihm (by omega)]
      refine ⟨_, J1, R', fun z j y1 y2 => ?_, hJ1, hR, Or.inr ⟨e, hrun1 n (by omega), rfl, by rw [u2_nk (by decide), u2_at]; decide, by rw [u2_at]; exact z3, p, q, hp, hq, hpq⟩⟩
      rw [u2_off (fun g => y2 ⟨g.1, Or.inr g.2⟩), u2_off (fun g => y2 ⟨g.1, Or.inl g.2⟩)]
      exact d1 z j y1
theorem passBack_l (cx : ChC I0 R kc ru co cvl ch kp la n cm css ar pl Vp) (hcar : CarC ru cv Vp I0 R) {R' : hR} (hR : ∀ z j, ¬ (z = kc ∧ (j = 8 ∨ j = 9)) → R' z j = R z j) (hv : ∀ k, k < n → Vp (I0 (cm (k + 1)) 1) (I0 (cm k) 1)) {y1 : Int32} {J0 : hJ} :
    ∀ (k f : Nat) (x : Int32) (I : hI) (J : hJ), x.toInt = k → k ≤ n → k < f → (∀ z j, ¬ (z = ru ∧ j = 11) → I z j = I0 z j) → (∀ z j, ¬ (z = ru ∧ j = 10) → ¬ (z = kc ∧ j = 10) → J z j = J0 z j) →
      ∃ I1 J1, (∀ z j, ¬ (z = ru ∧ j = 11) → ¬ (z = la ∧ (j = 1 ∨ j = 2)) → I1 z j = I0 z j) ∧ (∀ z j, ¬ (z = ru ∧ j = 10) → ¬ (z = kc ∧ j = 10) → J1 z j = J0 z j) ∧ ((∃ z, backA (fun k => I0 (cm k) 1) cv k (J kc 10) = Sum.inr z ∧ F_X1_passBack_5 kc y1 f I J R' x = (1, (I1, J1, R')) ∧ (∀ z j, ¬ (z = ru ∧ j = 11) → I1 z j = I0 z j) ∧ J1 kc 10 = z) ∨ (∃ e : Nat, backA (fun k => I0 (cm k) 1) cv k (J kc 10) = Sum.inl e ∧ F_X1_passBack_5 kc y1 f I J R' x = (0, (I1, J1, R')) ∧ (I1 la 1).toInt = 3 ∧ (I1 la 2).toInt = e)) := by
  obtain ⟨⟨v0, v1, vc, v3, v5, v6⟩, ⟨u1, u2', u3, u4, u5, u6, u7, u8⟩, hn, hm, hpl⟩ := id cx
  have wk : ∀ j, j ≠ 8 → j ≠ 9 → R' kc j = R kc j := fun j h1 h2 => hR kc j (fun g => by omega)
  have w : ∀ z j, z ≠ kc → R' z j = R z j := fun z j h => hR z j (fun g => h g.1)
  intro k
  induction k with
  | zero =>
    intro f x I J hx hk hf hI hJ
    obtain ⟨f', rfl⟩ : ∃ f', f = f' + 1 := ⟨f - 1, by omega⟩
    rw [F_X1_passBack_5_s]
    simp only [B_X1_passBack_5, nm]
    rw [if_pos (by rw [ile, hx, cI0]; omega)]
    exact ⟨I, J, fun z j z1 _ => hI z j z1, hJ, Or.inl ⟨_, rfl, rfl, hI, rfl⟩⟩
  | succ k ih =>
    intro f x I J hx hk hf hI hJ
    obtain ⟨f', rfl⟩ : ∃ f', f = f' + 1 := ⟨f - 1, by omega⟩
    have hxm : (x - 1).toInt = (k : Int) := by rw [isub hx cI1 (by omega) (by omega)]; omega
    have hxm' : (x + -1).toInt = (k : Int) := by rw [iadd hx cIm1 (by omega) (by omega)]; omega
    obtain ⟨a1, a2, a3, a4, a5, -⟩ := hm k (by omega)
    obtain ⟨c1, c2, c3, c4, c5, -⟩ := hm (k + 1) (by omega)
    rw [F_X1_passBack_5_s]
    simp only [B_X1_passBack_5, F_X4_noteFailure, nm, nmU, nmW, wk 0 (by decide) (by decide), wk 5 (by decide) (by decide), wk 3 (by decide) (by decide), v0, v5, v3, Option.getD_some, w ch _ u7, clamp_toInt hx, clamp_toInt hxm, a1, c1]
    rw [if_neg (by rw [ile, hx, cI0]; omega), hI (cm (k + 1)) 1 (fun g => c5 g.1), hI (cm k) 1 (fun g => a5 g.1)]
    obtain ⟨I1, J1, d1, d2, d3⟩ := hcar I J R' (I0 (cm (k + 1)) 1) (I0 (cm k) 1) (J kc 10) hI (fun j => w ru j (fun g => u3 g.symm)) (hv k (by omega))
    rcases d3 with ⟨z, z1, z2, z3⟩ | ⟨e, z1, z2, z3⟩
    · rw [z2]
      dsimp only
      rw [if_neg (show ¬ (1 : Int32) = 0 by decide)]
      have := ih f' (x + -1) I1 (u2 J1 kc 10 (J1 ru 10)) hxm' (by omega) (by omega) d1 (fun z j y1 y2 => by rw [u2_off y2, d2 z j y1]; exact hJ z j y1 y2)
      rw [u2_at, z3] at this
      simp only [backA, z1]
      rw [z3]
      exact this
    · rw [z2]
      dsimp only
      rw [if_pos rfl]
      simp only [backA, z1]
      refine ⟨_, J1, fun z j y1 y2 => ?_, fun z j y1 y2 => by rw [d2 z j y1]; exact hJ z j y1 y2, Or.inr ⟨e, rfl, rfl, by rw [u2_nk (by decide), u2_at]; decide, by rw [u2_at]; exact z3⟩⟩
      rw [u2_off (fun g => y2 ⟨g.1, Or.inr g.2⟩), u2_off (fun g => y2 ⟨g.1, Or.inl g.2⟩)]
      exact d1 z j y1
theorem takeH_l {c cs kh a8 m : Nat} {I : hI} (v3 : R c 3 = some cs) (v4 : R kc 4 = some kh) (v8 : R kc 8 = some a8) (vl : R kc 3 = some la) (nh : kh ≠ a8) (hn : (I c 2).toInt = m) (hm4 : m ≤ 4) (hs : ∀ i, i < 4 → 0 ≤ (I cs i).toInt ∧ (I cs i).toInt ≤ 6) {b1 : Nat} {J0 : hJ} :
    ∀ (r f i : Nat) (x : Int32) (J : hJ), x.toInt = i → i + r = m → r < f → (∀ z j, z ≠ a8 → J z j = J0 z j) → (∀ j, j < i → J a8 j = J0 kh j ∧ ¬ F_X11_isOf (I cs j) (J0 kh j) = 0) →
      ∃ J1, (∀ z j, z ≠ a8 → J1 z j = J0 z j) ∧ ((F_X1_takeHand_9 kc c b1 f I J R x = (1, (I, J1, R)) ∧ ∀ j, j < m → J1 a8 j = J0 kh j ∧ ¬ F_X11_isOf (I cs j) (J0 kh j) = 0) ∨ (F_X1_takeHand_9 kc c b1 f I J R x = (0, (u2 (u2 I la 1 0) la 2 (-1), J1, R)) ∧ ∃ j, j < m ∧ F_X11_isOf (I cs j) (J0 kh j) = 0)) := by
  intro r
  induction r with
  | zero =>
    intro f i x J hx hr hf hJ hd
    obtain ⟨f', rfl⟩ : ∃ f', f = f' + 1 := ⟨f - 1, by omega⟩
    rw [F_X1_takeHand_9_s]
    simp only [B_X1_takeHand_9, nm]
    rw [if_pos (by rw [ile, hn, hx]; omega)]
    exact ⟨J, hJ, Or.inl ⟨rfl, fun j hj => hd j (by omega)⟩⟩
  | succ r ih =>
    intro f i x J hx hr hf hJ hd
    obtain ⟨f', rfl⟩ : ∃ f', f = f' + 1 := ⟨f - 1, by omega⟩
    rw [F_X1_takeHand_9_s]
    simp only [B_X1_takeHand_9, F_X4_noteFailure, nm, nmW, v3, v4, v8, vl, Option.getD_some, clamp_toInt hx, isofE]
    rw [if_neg (by rw [ile, hn, hx]; omega), hJ kh i nh]
    have hx1 : (x + 1).toInt = ((i + 1 : Nat) : Int) := by rw [add1 (b := 4) (by omega) (by omega), hx]; omega
    by_cases h0 : F_X11_isOf (I cs i) (J0 kh i) = 0
    · rw [if_pos h0]
      exact ⟨J, hJ, Or.inr ⟨rfl, i, by omega, h0⟩⟩
    · rw [if_neg h0]
      refine ih f' (i + 1) (x + 1) (u2 J a8 i (J0 kh i)) hx1 (by omega) (by omega) (fun z j z1 => by rw [u2_ne z1]; exact hJ z j z1) (fun j hj => ?_)
      by_cases e : j = i
      · rw [e, u2_at]; exact ⟨rfl, h0⟩
      · rw [u2_nk e]; exact hd j (by omega)
end PASS
