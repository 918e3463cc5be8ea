/-! the model's measure(), and what both tables say of a turning -/
def TrM (I : hI) (mo mf mt mc mi tc tm tr : Nat) : Prop := ∀ a, a < 7 → TbM I tc tm tr a (sr I mf) (sr I mt) (cs I mc) (pm I mo mi)
section MT5
variable {mo sc sR mf mt mc mi tc tm tr : Nat} {J : hJ} {R : hR}
theorem TbM.of {I I1 : hI} {a : Nat} {src dst : Nat → Nat} {cst : Nat → Int} {pr : Nat → Prop} (h : TbM I tc tm tr a src dst cst pr) (h1 : ∀ b, b < 7 → I1 tc (7 * a + b) = I tc (7 * a + b) ∧ I1 tm (7 * a + b) = I tm (7 * a + b)) (h2 : ∀ q, 42 * a ≤ q → q < 42 * a + 42 → I1 tr q = I tr q) : TbM I1 tc tm tr a src dst cst pr := by
  obtain ⟨S, row, m1, m2⟩ := h
  refine ⟨S, row, m1, fun b hb => ?_⟩
  obtain ⟨n0, c1, c2, c3, c4, c5, c6, c7⟩ := m2 b hb
  obtain ⟨w1, w2⟩ := h1 b hb
  refine ⟨n0, c1, c2, c3, by rw [w1]; exact c4, by rw [w2]; exact c5, ?_, fun k hk => by rw [h2 _ (by omega) (by omega)]; exact c7 k hk⟩
  rw [← c6]
  refine sfx_congr _ _ (fun j q1 q2 => ?_)
  show (I1 tr _).toNatClampNeg = (I tr _).toNatClampNeg
  rw [h2 _ (by omega) (by omega)]
theorem tfrom {x1 : Int32} {a : Nat} (v32 : R mo 32 = some tc) (v33 : R mo 33 = some tm) (v34 : R mo 34 = some tr) (v35 : R mo 35 = some sc) (v36 : R mo 36 = some sR) (v2 : R mo 2 = some mf) (v3 : R mo 3 = some mt) (v4 : R mo 4 = some mc) (v7 : R mo 7 = some mi)
    (n1 : mo ≠ sc) (n2 : mo ≠ sR) (n3 : mf ≠ sc) (n4 : mf ≠ sR) (n5 : mt ≠ sc) (n6 : mt ≠ sR) (n7 : mc ≠ sc) (n8 : mc ≠ sR) (n9 : mi ≠ sc) (n10 : mi ≠ sR) (nn : sc ≠ sR) (p1 : sR ≠ tr) (p2 : sR ≠ tc) (p3 : sR ≠ tm) (p4 : tr ≠ tc) (p5 : tr ≠ tm) (p6 : tc ≠ tm) (p7 : sc ≠ tc) (p8 : sc ≠ tm) (p9 : sc ≠ tr) (ha : x1.toInt = a) (ba : a < 7) {I : hI} (hr : RlM I mo mf mt mc) (hdg : ∀ q, q < 294 → 0 ≤ (I sR q).toInt ∧ (I sR q).toInt < 32) :
    ∃ I1, F_X11_turningsFrom mo x1 I J R = (I1, J, R) ∧ (∀ c, c ≠ sc → c ≠ sR → c ≠ tc → c ≠ tm → c ≠ tr → I1 c = I c) ∧ (∀ q, (q < 7 * a ∨ 7 * a + 7 ≤ q) → I1 tc q = I tc q ∧ I1 tm q = I tm q) ∧ (∀ q, (q < 42 * a ∨ 42 * a + 42 ≤ q) → I1 tr q = I tr q) ∧ (∀ q, q < 294 → 0 ≤ (I1 sR q).toInt ∧ (I1 sR q).toInt < 32) ∧ TbM I1 tc tm tr a (sr I mf) (sr I mt) (cs I mc) (pm I mo mi) := by
  obtain ⟨I1, a1, a2, a3⟩ := init_l (mo := mo) (J := J) (R := R) (I0 := I) v35 ha 50 0 0 I (by decide) (by omega) (by omega) (fun _ _ => rfl) (fun q hq => by omega)
  have hs0 : sR ≠ sc := fun h => nn h.symm
  have S0 : ∀ n, n ≤ 6 → ∀ v, v < 7 → Lv I1 sc n v = if 7 * n + v = a then 0 else 1000000 := fun n hn v hv => a3 _ (by omega)
  obtain ⟨I2, b1, b2, b3, b4, b5⟩ := levels_l (J := J) (x1 := x1) (I0 := I) (a := a) v35 v36 v2 v3 v4 v7 n1 n2 n3 n4 n5 n6 n7 n8 n9 n10 nn hr 7 0 1 I1 (by decide) (by omega) (by omega) (fun c h1 _ => a2 c h1) (fun q hq => by rw [a2 sR hs0]; exact hdg q hq) (fun n hn v hv => by
      rw [S0 n (by omega) v hv]
      split
      · exact Or.inr ⟨by omega, by omega⟩
      · exact Or.inl rfl) (fun n h1 h2 v hv => by rw [S0 n h2 v hv, if_neg (by omega)]) (by
      intro n hn v hv
      obtain rfl : n = 0 := by omega
      rw [S0 0 (by omega) v hv]
      by_cases e : 7 * 0 + v = a
      · rw [if_pos e]
        refine ⟨⟨by omega, fun _ => ⟨by show a = v; omega, rfl, rfl⟩⟩, fun l hw hl => ?_⟩
        obtain rfl : l = [] := List.length_eq_zero_iff.mp hl
        exact ⟨by simp [wc], fun _ _ => Nat.le_refl _⟩
      · rw [if_neg e]
        refine ⟨⟨by omega, fun h => by omega⟩, fun l hw hl => ?_⟩
        obtain rfl : l = [] := List.length_eq_zero_iff.mp hl
        exact absurd (show a = v from hw) (by omega))
  obtain ⟨I3, c1, c2, c3, c4, c5⟩ := res_l (J := J) (x1 := x1) (I0 := I2) v32 v33 v34 v35 v36 p1 p2 p3 p4 p5 p6 p7 p8 p9 ha ba 8 0 0 I2 (by decide) (by omega) (by omega) (fun _ _ _ _ => rfl) (fun _ _ => ⟨rfl, rfl⟩) (fun _ _ => rfl) (fun b hb => by omega)
  have q3 : tc ≠ sc := fun h => p7 h.symm
  have q4 : tm ≠ sc := fun h => p8 h.symm
  have q5 : tr ≠ sc := fun h => p9 h.symm
  have q6 : tc ≠ sR := fun h => p2 h.symm
  have q7 : tm ≠ sR := fun h => p3 h.symm
  have q8 : tr ≠ sR := fun h => p1 h.symm
  refine ⟨I3, ?_, fun c h1 h2 h3 h4 h5 => by rw [c2 c h3 h4 h5, b2 c h1 h2], fun q hq => ?_, fun q hq => by rw [c4 q hq, b2 tr q5 q8], fun q hq => by rw [c2 sR p2 p3 p1]; exact b3 q hq, ?_⟩
  · rw [← c1, ← b1, ← a1]; rfl
  · have := c3 q hq
    rw [b2 tc q3 q6, b2 tm q4 q7] at this
    exact this
  · refine ⟨Lv I2 sc, Rv I2 sR, b5, fun b hb => ?_⟩
    obtain ⟨n0, d1, d2, d3, d4, d5, d6⟩ := c5 b hb
    refine ⟨n0, d1, d2, d3, d4, d5, ?_, fun k hk => by rw [d6 k hk]; exact (b3 _ (by omega)).1⟩
    unfold Rv
    refine sfx_congr _ _ (fun j q1 q2 => ?_)
    show (I3 tr _).toNatClampNeg = (I2 sR _).toNatClampNeg
    rw [d6 j (by omega)]
theorem mmeas_l (v32 : R mo 32 = some tc) (v33 : R mo 33 = some tm) (v34 : R mo 34 = some tr) (v35 : R mo 35 = some sc) (v36 : R mo 36 = some sR) (v2 : R mo 2 = some mf) (v3 : R mo 3 = some mt) (v4 : R mo 4 = some mc) (v7 : R mo 7 = some mi)
    (n1 : mo ≠ sc) (n2 : mo ≠ sR) (n3 : mf ≠ sc) (n4 : mf ≠ sR) (n5 : mt ≠ sc) (n6 : mt ≠ sR) (n7 : mc ≠ sc) (n8 : mc ≠ sR) (n9 : mi ≠ sc) (n10 : mi ≠ sR) (nn : sc ≠ sR) (p1 : sR ≠ tr) (p2 : sR ≠ tc) (p3 : sR ≠ tm) (p4 : tr ≠ tc) (p5 : tr ≠ tm) (p6 : tc ≠ tm) (p7 : sc ≠ tc) (p8 : sc ≠ tm) (p9 : sc ≠ tr)
    (k1 : mo ≠ tc) (k2 : mo ≠ tm) (k3 : mo ≠ tr) (k4 : mf ≠ tc) (k5 : mf ≠ tm) (k6 : mf ≠ tr) (k7 : mt ≠ tc) (k8 : mt ≠ tm) (k9 : mt ≠ tr) (k10 : mc ≠ tc) (k11 : mc ≠ tm) (k12 : mc ≠ tr) (k13 : mi ≠ tc) (k14 : mi ≠ tm) (k15 : mi ≠ tr) {I0 : hI} (hr : RlM I0 mo mf mt mc) :
    ∀ (f p : Nat) (x : Int32) (I : hI), x.toInt = p → p ≤ 7 → 7 < f + p → (∀ c, c ≠ sc → c ≠ sR → c ≠ tc → c ≠ tm → c ≠ tr → I c = I0 c) → (∀ q, q < 294 → 0 ≤ (I sR q).toInt ∧ (I sR q).toInt < 32) → (∀ a, a < p → TbM I tc tm tr a (sr I0 mf) (sr I0 mt) (cs I0 mc) (pm I0 mo mi)) →
      ∃ I1, F_X11_measure_2 mo f I J R x = (I1, J, R) ∧ (∀ c, c ≠ sc → c ≠ sR → c ≠ tc → c ≠ tm → c ≠ tr → I1 c = I0 c) ∧ ∀ a, a < 7 → TbM I1 tc tm tr a (sr I0 mf) (sr I0 mt) (cs I0 mc) (pm I0 mo mi) := by
  intro f
  induction f with
  | zero => intro p x I _ q1 q2; omega
  | succ f ih =>
    intro p x I hx hp hf hc hdg hI
    rw [F_X11_measure_2_s]
    simp only [B_X11_measure_2, nm, nmW]
    by_cases e : p = 7
    · rw [if_pos (by rw [ile, hx, cI7]; omega)]
      subst e
      exact ⟨I, rfl, hc, hI⟩
    · rw [if_neg (by rw [ile, hx, cI7]; omega)]
      have hrI : RlM I mo mf mt mc := by unfold RlM at *; rw [hc mo n1 n2 k1 k2 k3, hc mf n3 n4 k4 k5 k6, hc mt n5 n6 k7 k8 k9, hc mc n7 n8 k10 k11 k12]; exact hr
      obtain ⟨I1, c1, c2, c3, c4, c5, c6⟩ := tfrom (J := J) (I := I) (x1 := x) v32 v33 v34 v35 v36 v2 v3 v4 v7 n1 n2 n3 n4 n5 n6 n7 n8 n9 n10 nn p1 p2 p3 p4 p5 p6 p7 p8 p9 hx (show p < 7 by omega) hrI hdg
      have eqs : sr I mf = sr I0 mf ∧ sr I mt = sr I0 mt ∧ cs I mc = cs I0 mc ∧ pm I mo mi = pm I0 mo mi := by
        unfold sr cs pm
        rw [hc mo n1 n2 k1 k2 k3, hc mf n3 n4 k4 k5 k6, hc mt n5 n6 k7 k8 k9, hc mc n7 n8 k10 k11 k12, hc mi n9 n10 k13 k14 k15]
        exact ⟨rfl, rfl, rfl, rfl⟩
      rw [eqs.1, eqs.2.1, eqs.2.2.1, eqs.2.2.2] at c6
      rw [c1]
      refine ih (p + 1) (x + 1) I1 (by rw [add1 (b := 7) (by omega) (by omega), hx]; omega) (by omega) (by omega) (fun c h1 h2 h3 h4 h5 => by rw [c2 c h1 h2 h3 h4 h5, hc c h1 h2 h3 h4 h5]) c5 (fun a ha => ?_)
      by_cases z : a = p
      · subst z
        exact c6
      · exact (hI a (by omega)).of (fun b hb => c3 _ (by omega)) (fun q h1 h2 => c4 q (by omega))
end MT5
/-- what both say of a turning from a to b: the cost, how many rules, and which -/
theorem turn_eq {Ic Im : hI} {ru rf rt rc rth w fi mo mf mt mc mi tc tm tr a b : Nat} (hr : Rl Ic ru rf rt rc) (hT : Tb Ic ru rf rt rc rth w fi) (hM : TbM Im tc tm tr a (sr Ic rf) (sr Ic rt) (cs Ic rc) (pe Ic ru rth)) (ha : a < 7) (hb : b < 7) :
    ((Ic w (a * 7 + b)).toInt < 268435456 ∧ (Im tc (7 * a + b)).toInt < 1000000 ∧ (Ic w (a * 7 + b)).toInt = 8 * (Im tc (7 * a + b)).toInt + (Im tm (7 * a + b)).toInt ∧ (0 ≤ (Im tm (7 * a + b)).toInt ∧ (Im tm (7 * a + b)).toInt ≤ 6) ∧ 0 ≤ (Im tc (7 * a + b)).toInt ∧ sfx (fun k => (Im tr (6 * (7 * a + b) + k)).toNatClampNeg) 0 (Im tm (7 * a + b)).toNatClampNeg = gry (sr Ic rt) (fun v => (Ic fi (v * 7 + b)).toNatClampNeg) b 7 a ∧ ∀ k, k < (Im tm (7 * a + b)).toNatClampNeg → 0 ≤ (Im tr (6 * (7 * a + b) + k)).toInt) ∨
      ((Ic w (a * 7 + b)).toInt = 268435456 ∧ (Im tc (7 * a + b)).toInt = 1000000) := by
  obtain ⟨S, row, m1, m2⟩ := hM
  obtain ⟨n0, c1, c2, c3, c4, c5, c6, c7⟩ := m2 b hb
  have hE := EokR (rth := rth) hr
  have hD := hT.D hr hb
  have hF := hT.F hb
  have hlen : ∀ l (u v : Nat), Wk (sr Ic rf) (sr Ic rt) (pe Ic ru rth) u l v → wc (cs Ic rc) l ≤ 50 * l.length := by
    intro l
    induction l with
    | nil => intro u v _; simp [wc]
    | cons x l ih =>
      intro u v hw
      obtain ⟨h1, h2, h3⟩ := hw
      have := ih _ _ h3
      have c50 : cs Ic rc x ≤ 50 := (hr.2 x (by have := hr.1.2; have := h1.1; omega)).2.2.2
      simp only [wc, List.length_cons]
      omega
  by_cases hd : (Ic w (a * 7 + b)).toInt < 268435456
  · left
    obtain ⟨k0, d1, d2, d3, d4, d5, d6⟩ := best_eq hE (by decide) hD hF m1 ha hb hd (fun l hw hl => by have := hlen l _ _ hw; omega)
    have e : n0 = k0 := by
      rcases Nat.lt_trichotomy n0 k0 with h | h | h
      · have := d6 n0 h
        have := c2 k0 d1
        omega
      · exact h
      · have := c3 k0 h
        have := d5 n0 c1
        omega
    subst e
    have h0 : 0 ≤ S n0 b := by
      obtain ⟨⟨-, q⟩, -⟩ := m1 n0 (by omega) b hb
      obtain ⟨w1, w2, w3⟩ := q d2
      rw [← w3]
      exact wc_nn hE _ _ _ w1
    have d3 : (Ic w (a * 7 + b)).toInt = 8 * S n0 b + n0 := d3
    refine ⟨hd, by omega, by omega, ⟨by omega, by omega⟩, by omega, ?_, ?_⟩
    · rw [clamp_toInt c5, c6, d4]
    · rw [clamp_toInt c5]; exact c7
  · right
    have h1 := none_eq hD m1 hb (by decide) (by decide) hd n0 c1
    have := (hT.1.1 (a * 7 + b) (by omega)).2
    have this : (Ic w (a * 7 + b)).toInt ≤ 268435456 := this
    exact ⟨by omega, by omega⟩
