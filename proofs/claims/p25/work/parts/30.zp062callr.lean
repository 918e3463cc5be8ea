/-! both outcomes are the same -/
section OUTC
variable {ar : Nat → Nat} {so so' : Nat → Nat → Int32} {re re' : Nat → Int32} {pl : Nat → Nat → Nat} {cv : Int32 → Int32 → Int64 → Nat ⊕ Int64} {kv : Int32 → Int64} {h : Nat → Int64} {n : Nat}
theorem evA_congr {k : Nat} (h1 : ∀ i, i < ar (k + 1) → so' (k + 1) i = so (k + 1) i) (h0 : ∀ i, i < ar k → so' k i = so k i) (hp : ∀ i, i < ar (k + 1) → pl k i = 4 ∨ pl k i < ar k) {a a' : Nat → Int64} (ha : ∀ i, i < ar k → a' i = a i) : ∀ i, i < ar (k + 1) → evA so' pl cv kv k a' i = evA so pl cv kv k a i := fun i hi => by
  unfold evA
  by_cases h4 : pl k i = 4
  · rw [if_pos h4, if_pos h4, h1 i hi]
  · have g := (hp i hi).resolve_left h4
    rw [if_neg h4, if_neg h4, h1 i hi, h0 _ g, ha _ g]
theorem runA_congr (hs : ∀ k, k ≤ n → ∀ i, i < ar k → so' k i = so k i) (hp : ∀ k, k < n → ∀ i, i < ar (k + 1) → pl k i = 4 ∨ pl k i < ar k) : ∀ k, k ≤ n → (∃ e, runA ar so' pl cv kv h k = Sum.inl e ∧ runA ar so pl cv kv h k = Sum.inl e) ∨ (∃ a a', runA ar so' pl cv kv h k = Sum.inr a' ∧ runA ar so pl cv kv h k = Sum.inr a ∧ ∀ i, i < ar k → a' i = a i) := by
  intro k
  induction k with
  | zero => intro _; exact Or.inr ⟨h, h, rfl, rfl, fun _ _ => rfl⟩
  | succ k ih =>
    intro hk
    rcases ih (by omega) with ⟨e, e1, e2⟩ | ⟨a, a', e1, e2, e3⟩
    · exact Or.inl ⟨e, by simp only [runA, e1], by simp only [runA, e2]⟩
    · have ev := evA_congr (cv := cv) (kv := kv) (hs (k + 1) hk) (hs k (by omega)) (hp k (by omega)) e3
      have ef := fE_congr (ar (k + 1)) ev
      cases hx : fE (evA so pl cv kv k a) (ar (k + 1)) with
      | some e => exact Or.inl ⟨e, by simp only [runA, e1, ef, hx], by simp only [runA, e2, hx]⟩
      | none => exact Or.inr ⟨vE (evA so pl cv kv k a), vE (evA so' pl cv kv k a'), by simp only [runA, e1, ef, hx], by simp only [runA, e2, hx], fun i hi => by unfold vE; rw [ev i hi]⟩
theorem backA_congr (hr : ∀ k, k ≤ n → re' k = re k) : ∀ k, k ≤ n → ∀ v, backA re' cv k v = backA re cv k v := by
  intro k
  induction k with
  | zero => intro _ v; rfl
  | succ k ih =>
    intro hk v
    simp only [backA]
    rw [hr (k + 1) hk, hr k (by omega)]
    cases cv (re (k + 1)) (re k) v with
    | inl e => rfl
    | inr z => exact ih (by omega) z
theorem outA_congr (hs : ∀ k, k ≤ n → ∀ i, i < ar k → so' k i = so k i) (hr : ∀ k, k ≤ n → re' k = re k) (hp : ∀ k, k < n → ∀ i, i < ar (k + 1) → pl k i = 4 ∨ pl k i < ar k) {wk wk' : (Nat → Int64) → Option (Int64 × Option Int64)} (hw : ∀ a a' : Nat → Int64, (∀ i, i < ar n → a' i = a i) → wk' a' = wk a) : outA ar so' re' pl cv kv h n wk' = outA ar so re pl cv kv h n wk := by
  by_cases hh : ∃ i, i < ar 0 ∧ F_X11_isOf (so 0 i) (h i) = 0
  · have hh' : ∃ i, i < ar 0 ∧ F_X11_isOf (so' 0 i) (h i) = 0 := by
      obtain ⟨i, i1, i2⟩ := hh
      exact ⟨i, i1, by rw [hs 0 (Nat.zero_le _) i i1]; exact i2⟩
    rw [outA_hand hh, outA_hand hh']
  · have hh' : ¬ ∃ i, i < ar 0 ∧ F_X11_isOf (so' 0 i) (h i) = 0 := fun ⟨i, i1, i2⟩ => hh ⟨i, i1, by rw [← hs 0 (Nat.zero_le _) i i1]; exact i2⟩
    rcases runA_congr (cv := cv) (kv := kv) (h := h) hs hp n (Nat.le_refl _) with ⟨e, e1, e2⟩ | ⟨a, a', e1, e2, e3⟩
    · rw [outA_run hh' e1, outA_run hh e2]
    · have ew := hw a a' e3
      cases hx : wk a with
      | none => rw [outA_wk hh e2 hx, outA_wk hh' e1 (ew.trans hx)]
      | some q =>
        have eb := backA_congr (cv := cv) hr n (Nat.le_refl _) q.1
        cases hy : backA re cv n q.1 with
        | inl e => rw [outA_bk hh e2 hx hy, outA_bk hh' e1 (ew.trans hx) (eb.trans hy)]
        | inr v => rw [outA_ok hh e2 hx hy, outA_ok hh' e1 (ew.trans hx) (eb.trans hy)]
end OUTC
/-! objects, hands and what is told of the latest calls -/
def CelT (L : List Nat) (C : Nat → Nat) (x mo : Nat) (R : hR) (th tcl tfl la kc kh mc mf mh : Nat) : Prop := At L C R x 6 th 8 ∧ At L C R th 0 tcl 48 ∧ At L C R th 1 tfl 49 ∧ At L C R x 7 la 4 ∧ At L C R x 8 kc 1 ∧ At L C R kc 4 kh 50 ∧ At L C R mo 22 mc 82 ∧ At L C R mo 23 mf 83 ∧ At L C R mo 24 mh 84
def EqT (I : hI) (J : hJ) (mo th tcl tfl la kh mc mf mh : Nat) : Prop := I th 2 = I mo 21 ∧ I tcl = I mc ∧ J tfl = J mf ∧ J kh = J mh ∧ J la 0 = J mo 25 ∧ I la 3 = I mo 29 ∧ I la 4 = I mo 30
def RT (L : List Nat) (C : Nat → Nat) (x mo : Nat) (u : hU) : Prop := C x = 10 ∧ C mo = 11 ∧ ∃ th tcl tfl la kc kh mc mf mh : Nat, CelT L C x mo u.2.2 th tcl tfl la kc kh mc mf mh ∧ EqT u.1 u.2.1 mo th tcl tfl la kh mc mf mh ∧ ∃ a b, At L C u.2.2 kc 8 a 53 ∧ At L C u.2.2 kc 9 b 53 ∧ a ≠ b
def codesT : List Nat := [646, 647, 648, 512, 513, 514, 68, 72, 73, 726, 727, 728, 725, 729, 733, 734, 256, 259, 260, 3072, 3136, 3200, 5248, 5312, 5376]
theorem smOJ {C : Nat → Nat} {ms : List Nat} {u v : hU} {b r k : Nat} (s : Sm C ms u v) (hb : C b = r) (hm : ms.contains (mC r k) = false) : v.2.1 b k = u.2.1 b k := (s b k (by rw [hb]; exact nm_obj hm)).2.1
theorem RT.sm {L : List Nat} {C : Nat → Nat} {x mo : Nat} {ms : List Nat} {u v : hU} (rel : RT L C x mo u) (oR : OkR L C v.2.2) (s : Sm C ms u v) (hm : codesT.all (fun z => !ms.contains z) = true) : RT L C x mo v := by
  obtain ⟨kx, km, th, tcl, tfl, la, kc, kh, mc, mf, mh, ⟨c1, c2, c3, c4, c5, c6, c7, c8, c9⟩, e, a, b, ha, hb, hab⟩ := rel
  have hn : ∀ z ∈ codesT, ms.contains z = false := fun z hz => by have := List.all_eq_true.mp hm z hz; simpa using this
  refine ⟨kx, km, th, tcl, tfl, la, kc, kh, mc, mf, mh, ⟨c1.sm s kx (hn 646 (by decide)), c2.sm s c1.2.1 (hn 512 (by decide)), c3.sm s c1.2.1 (hn 513 (by decide)), c4.sm s kx (hn 647 (by decide)), c5.sm s kx (hn 648 (by decide)), c6.sm s c5.2.1 (hn 68 (by decide)), c7.sm s km (hn 726 (by decide)), c8.sm s km (hn 727 (by decide)), c9.sm s km (hn 728 (by decide))⟩, ?_, a, b, ha.sm s c5.2.1 (hn 72 (by decide)), hb.sm s c5.2.1 (hn 73 (by decide)), hab⟩
  unfold EqT at *
  rw [smO (k := 2) s c1.2.1 (hn 514 (by decide)), smO (k := 21) s km (hn 725 (by decide)), smA s c2.2.1 (by decide) (hn 3072 (by decide)), smA s c7.2.1 (by decide) (hn 5248 (by decide)), smJ s c3.2.1 (by decide) (hn 3136 (by decide)), smJ s c8.2.1 (by decide) (hn 5312 (by decide)), smJ s c6.2.1 (by decide) (hn 3200 (by decide)), smJ s c9.2.1 (by decide) (hn 5376 (by decide)), smOJ (k := 0) s c4.2.1 (hn 256 (by decide)), smOJ (k := 25) s km (hn 729 (by decide)), smO (k := 3) s c4.2.1 (hn 259 (by decide)), smO (k := 29) s km (hn 733 (by decide)), smO (k := 4) s c4.2.1 (hn 260 (by decide)), smO (k := 30) s km (hn 734 (by decide))]
  exact e
def RX (L : List Nat) (C : Nat → Nat) (x mo : Nat) (u : hU) : Prop := RW L C x mo u ∧ RT L C x mo u
theorem RX.sm {L : List Nat} {C : Nat → Nat} {x mo : Nat} {ms : List Nat} {u v : hU} (rel : RX L C x mo u) (oI : OkI L C v.1) (oR : OkR L C v.2.2) (s : Sm C ms u v) (hm : (codesT ++ (codesK ++ (codesR ++ (codesM ++ ([641, 0, 1, 721, 722, 2560, 5056] ++ [642, 128, 129, 723, 724, 2624, 2688, 5120, 5184]))))).all (fun z => !ms.contains z) = true) : RX L C x mo v := by
  rw [List.all_append, Bool.and_eq_true] at hm
  exact ⟨RW.sm rel.1 oI oR s hm.2, RT.sm rel.2 oR s hm.1⟩
