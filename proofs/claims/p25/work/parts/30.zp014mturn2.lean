theorem Mok.congr {N M Bs : Nat} {FM : Int} {src dst : Nat → Nat} {cst : Nat → Int} {pr : Nat → Prop} {a : Nat} {S S1 : Nat → Nat → Int} {row row1 : Nat → Nat → List Nat} (h : Mok N M Bs FM src dst cst pr a S row) (hS : ∀ n, n ≤ M → ∀ v, v < N → S1 n v = S n v) (hR : ∀ n, n ≤ M → ∀ v, v < N → row1 n v = row n v) : Mok N M Bs FM src dst cst pr a S1 row1 := by
  intro n hn v hv
  rw [hS n hn v hv, hR n hn v hv]
  exact h n hn v hv
theorem Stpp.congr {N Bs k : Nat} {FM : Int} {src dst : Nat → Nat} {cst : Nat → Int} {pr : Nat → Prop} {s s2 : Nat → Int} {r r2 : Nat → List Nat} {s1 : Nat → Int} {r1 : Nat → List Nat} (hE : Eok N Bs src dst cst pr) (h : Stpp N Bs k FM src dst cst pr s r s1 r1) (hs : ∀ v, v < N → s2 v = s v) (hr : ∀ v, v < N → r2 v = r v) : Stpp N Bs k FM src dst cst pr s2 r2 s1 r1 := by
  intro v hv
  obtain ⟨t1, t2⟩ := h v hv
  refine ⟨t1.imp id (fun ⟨e, q1, q2, q3, q4, q5, q6⟩ => ⟨e, q1, q2, q3, by rw [hs _ (hE e q2).1]; exact q4, by rw [hs _ (hE e q2).1]; exact q5, by rw [hr _ (hE e q2).1]; exact q6⟩), fun e q1 q2 q3 q4 => ?_⟩
  rw [hs _ (hE e q2).1] at q4 ⊢
  rw [hr _ (hE e q2).1]
  exact t2 e q1 q2 q3 q4
theorem EokM {I : hI} {mo mf mt mc mi : Nat} (hr : RlM I mo mf mt mc) : Eok 7 32 (sr I mf) (sr I mt) (cs I mc) (pm I mo mi) := fun e he => by
  have hlt : e < 32 := by have := hr.1.2; have := he.1; omega
  obtain ⟨r1, r2, r3⟩ := hr.2 e hlt
  have ef : (I mf e).toInt = (sr I mf e : Nat) := (nat_of r1.1).symm
  have et : (I mt e).toInt = (sr I mt e : Nat) := (nat_of r2.1).symm
  exact ⟨by omega, by omega, r3.1, hlt⟩
theorem Lv_le {I : hI} {sc n v : Nat} {k : Int} (h : Lv I sc n v = 1000000 ∨ (0 ≤ Lv I sc n v ∧ Lv I sc n v ≤ 50 * k)) (hk : k ≤ 6) : Lv I sc n v ≤ 1000000 := by omega
section MT3
variable {mo sc sR mf mt mc mi : Nat} {J : hJ} {R : hR} {x1 : Int32}
theorem levels_l (v35 : R mo 35 = some sc) (v36 : R mo 36 = some sR) (v2 : R mo 2 = some mf) (v3 : R mo 3 = some mt) (v4 : R mo 4 = some mc) (v7 : R mo 7 = some mi) (n1 : mo ≠ sc) (n2 : mo ≠ sR) (n3 : mf ≠ sc) (n4 : mf ≠ sR) (n5 : mt ≠ sc) (n6 : mt ≠ sR) (n7 : mc ≠ sc) (n8 : mc ≠ sR) (n9 : mi ≠ sc) (n10 : mi ≠ sR) (nn : sc ≠ sR) {I0 : hI} (hr : RlM I0 mo mf mt mc) {a : Nat} :
    ∀ (f m : Nat) (x : Int32) (I : hI), x.toInt = ((m + 1 : Nat) : Int) → m ≤ 6 → 6 < f + m → (∀ c, c ≠ sc → c ≠ sR → I c = I0 c) → (∀ q, q < 294 → 0 ≤ (I sR q).toInt ∧ (I sR q).toInt < 32) → (∀ n, n ≤ m → ∀ v, v < 7 → Lv I sc n v = 1000000 ∨ (0 ≤ Lv I sc n v ∧ Lv I sc n v ≤ 50 * n)) → (∀ n, m < n → n ≤ 6 → ∀ v, v < 7 → Lv I sc n v = 1000000) →
      Mok 7 m 32 1000000 (sr I0 mf) (sr I0 mt) (cs I0 mc) (pm I0 mo mi) a (Lv I sc) (Rv I sR) →
      ∃ I1, F_X11_turningsFrom_33 mo x1 f I J R x = F_X11_turningsFrom_257 mo x1 8 I1 J R 0 ∧ (∀ c, c ≠ sc → c ≠ sR → I1 c = I0 c) ∧ (∀ q, q < 294 → 0 ≤ (I1 sR q).toInt ∧ (I1 sR q).toInt < 32) ∧ (∀ n, n ≤ 6 → ∀ v, v < 7 → Lv I1 sc n v = 1000000 ∨ (0 ≤ Lv I1 sc n v ∧ Lv I1 sc n v ≤ 50 * n)) ∧ Mok 7 6 32 1000000 (sr I0 mf) (sr I0 mt) (cs I0 mc) (pm I0 mo mi) a (Lv I1 sc) (Rv I1 sR) := by
  intro f
  induction f with
  | zero => intro m x I _ q1 q2; omega
  | succ f ih =>
    intro m x I hx hm hf hc hdg hb hz hM
    rw [F_X11_turningsFrom_33_s]
    simp only [B_X11_turningsFrom_33]
    by_cases e : m = 6
    · rw [if_pos (by rw [ile, hx, cI7]; omega)]
      subst e
      exact ⟨I, rfl, hc, hdg, hb, hM⟩
    · rw [if_neg (by rw [ile, hx, cI7]; omega)]
      have hrI : RlM I mo mf mt mc := by unfold RlM at *; rw [hc mo n1 n2, hc mf n3 n4, hc mt n5 n6, hc mc n7 n8]; exact hr
      obtain ⟨I1, d1, d2, d3, d4, d5, d6, d7⟩ := rules_l (J := J) (x1 := x1) (m := m) (xn := x) (K := F_X11_turningsFrom_33 mo x1 f) (I0 := I) v35 v36 v2 v3 v4 v7 n1 n2 n3 n4 n5 n6 n7 n8 n9 n10 nn hx (by omega) hrI (hb m (Nat.le_refl _)) 33 0 0 I (by decide) (by have := hrI.1.1; omega) (by have := hrI.1.2; omega) (fun _ _ _ => rfl) (fun _ _ => rfl) (fun _ _ => rfl) hdg (fun v hv => Or.inl (hz (m + 1) (by omega) (by omega) v hv)) (fun v hv => ⟨Or.inl (hz (m + 1) (by omega) (by omega) v hv), fun e he => by omega⟩)
      rw [show ((32 - (0 : Int32).toInt).toNat + 1) = 33 by decide, d1]
      have s1 : ∀ n, n ≤ m → ∀ v, v < 7 → Lv I1 sc n v = Lv I sc n v := fun n hn v hv => by
        unfold Lv
        rw [d3 _ (Or.inl (by omega))]
      have s2 : ∀ n, n ≤ m → ∀ v, v < 7 → Rv I1 sR n v = Rv I sR n v := fun n hn v hv => by
        unfold Rv
        refine sfx_congr _ _ (fun j q1 q2 => ?_)
        show (I1 sR _).toNatClampNeg = (I sR _).toNatClampNeg
        rw [d4 _ (Or.inl (by omega))]
      have hb1 : ∀ n, n ≤ m + 1 → ∀ v, v < 7 → Lv I1 sc n v = 1000000 ∨ (0 ≤ Lv I1 sc n v ∧ Lv I1 sc n v ≤ 50 * n) := fun n hn v hv => by
        by_cases q : n = m + 1
        · subst q
          have := d6 v hv
          omega
        · rw [s1 n (by omega) v hv]
          exact hb n (by omega) v hv
      have eqs : sr I mf = sr I0 mf ∧ sr I mt = sr I0 mt ∧ cs I mc = cs I0 mc ∧ pm I mo mi = pm I0 mo mi := by
        unfold sr cs pm
        rw [hc mo n1 n2, hc mf n3 n4, hc mt n5 n6, hc mc n7 n8, hc mi n9 n10]
        exact ⟨rfl, rfl, rfl, rfl⟩
      rw [eqs.1, eqs.2.1, eqs.2.2.1, eqs.2.2.2] at d7
      have hEo := EokM (mi := mi) hr
      have hM1 : Mok 7 (m + 1) 32 1000000 (sr I0 mf) (sr I0 mt) (cs I0 mc) (pm I0 mo mi) a (Lv I1 sc) (Rv I1 sR) := by
        refine Mok.step (k := (I mo 1).toNatClampNeg) hEo (fun e he => ?_) (hM.congr s1 s2) (d7.congr hEo (s1 m (Nat.le_refl _)) (s2 m (Nat.le_refl _))) (fun v hv => Lv_le (k := m + 1) (by have := hb1 (m + 1) (Nat.le_refl _) v hv; omega) (by omega))
        have h1 := he.1
        rw [← hc mo n1 n2] at h1
        have := nat_of hrI.1.1
        omega
      exact ih (m + 1) (x + 1) I1 (by rw [add1 (b := 7) (by omega) (by omega), hx]; omega) (by omega) (by omega) (fun c h1 h2 => by rw [d2 c h1 h2, hc c h1 h2]) d5 hb1 (fun n h1 h2 v hv => by
        unfold Lv
        rw [d3 _ (Or.inr (by omega))]
        exact hz n (by omega) h2 v hv) hM1
theorem init_l (v35 : R mo 35 = some sc) {I0 : hI} {a : Nat} (ha : x1.toInt = a) :
    ∀ (f p : Nat) (x : Int32) (I : hI), x.toInt = p → p ≤ 49 → 49 < f + p → (∀ c, c ≠ sc → I c = I0 c) → (∀ q, q < p → (I sc q).toInt = if q = a then 0 else 1000000) →
      ∃ I1, F_X11_turningsFrom_2 mo x1 f I J R x = F_X11_turningsFrom_33 mo x1 7 I1 J R 1 ∧ (∀ c, c ≠ sc → I1 c = I0 c) ∧ ∀ q, q < 49 → (I1 sc q).toInt = if q = a then 0 else 1000000 := by
  intro f
  induction f with
  | zero => intro p x I _ q1 q2; omega
  | succ f ih =>
    intro p x I hx hp hf hc hI
    rw [F_X11_turningsFrom_2_s]
    simp only [B_X11_turningsFrom_2, F_X11_turningsFrom_24, nm, v35, Option.getD_some, clamp_toInt hx]
    by_cases e : p = 49
    · rw [if_pos (by rw [ile, hx, show Int32.toInt 49 = 49 by decide]; omega)]
      subst e
      exact ⟨I, rfl, hc, hI⟩
    · rw [if_neg (by rw [ile, hx, show Int32.toInt 49 = 49 by decide]; omega)]
      have hx1 : (x + 1).toInt = ((p + 1 : Nat) : Int) := by rw [add1 (b := 49) (by omega) (by omega), hx]; omega
      by_cases q : x = x1
      · rw [if_pos q]
        have hpa : p = a := by rw [q, ha] at hx; omega
        exact ih (p + 1) (x + 1) (u2 I sc p 0) hx1 (by omega) (by omega) (fun c h => by rw [u2_ne h, hc c h]) (fun z hz => by
          by_cases z1 : z = p
          · rw [z1, u2_at, if_pos hpa]; decide
          · rw [u2_nk z1]; exact hI z (by omega))
      · rw [if_neg q]
        have hpa : p ≠ a := fun h => q (by rw [ieq, hx, ha, h])
        exact ih (p + 1) (x + 1) (u2 I sc p 1000000) hx1 (by omega) (by omega) (fun c h => by rw [u2_ne h, hc c h]) (fun z hz => by
          by_cases z1 : z = p
          · rw [z1, u2_at, if_neg hpa]; decide
          · rw [u2_nk z1]; exact hI z (by omega))
end MT3
/-- what the model's tables say of all walks from a -/
def TbM (I : hI) (tc tm tr a : Nat) (src dst : Nat → Nat) (cst : Nat → Int) (pr : Nat → Prop) : Prop :=
  ∃ S row, Mok 7 6 32 1000000 src dst cst pr a S row ∧ ∀ b, b < 7 → ∃ n0, n0 < 7 ∧ (∀ n, n < 7 → S n0 b ≤ S n b) ∧ (∀ n, n < n0 → S n0 b < S n b) ∧ (I tc (7 * a + b)).toInt = S n0 b ∧ (I tm (7 * a + b)).toInt = n0 ∧ sfx (fun k => (I tr (6 * (7 * a + b) + k)).toNatClampNeg) 0 n0 = row n0 b ∧ ∀ k, k < n0 → 0 ≤ (I tr (6 * (7 * a + b) + k)).toInt
section MT4
variable {mo sc sR tc tm tr : Nat} {J : hJ} {R : hR} {x1 : Int32}
theorem rcopy_l (v34 : R mo 34 = some tr) (v36 : R mo 36 = some sR) (nn : sR ≠ tr) {K : hI → hJ → hR → Int32 → hU} {xb x3 x4 : Int32} {b n k : Nat} (hb : xb.toInt = b) (h3 : x3.toInt = n) (h4 : x4.toInt = k) (bb : b < 7) (bn : n < 7) (bk : k < 49) {I0 : hI} :
    ∀ (f p : Nat) (x : Int32) (I : hI), x.toInt = p → p ≤ n → n < f + p → (∀ c, c ≠ tr → I c = I0 c) → (∀ q, I tr q = if 6 * k ≤ q ∧ q < 6 * k + p then I0 sR (6 * (7 * n + b) + (q - 6 * k)) else I0 tr q) →
      ∃ I1, F_X11_turningsFrom_351 mo x1 xb K f I J R x3 x4 x = K I1 J R (xb + 1) ∧ (∀ c, c ≠ tr → I1 c = I0 c) ∧ ∀ q, I1 tr q = if 6 * k ≤ q ∧ q < 6 * k + n then I0 sR (6 * (7 * n + b) + (q - 6 * k)) else I0 tr q := by
  intro f
  induction f with
  | zero => intro p x I _ q1 q2; omega
  | succ f ih =>
    intro p x I hx hp hf hc hI
    rw [F_X11_turningsFrom_351_s]
    simp only [B_X11_turningsFrom_351, nm, v34, v36, Option.getD_some]
    by_cases e : p = n
    · rw [if_pos (by rw [ile, hx, h3]; omega)]
      subst e
      exact ⟨I, rfl, hc, hI⟩
    · rw [if_neg (by rw [ile, hx, h3]; omega)]
      have m6 := imul (x := 6) cI6 h4 (by omega) (by omega)
      have i1 : (6 * x4 + x).toNatClampNeg = 6 * k + p := clamp_toInt (by rw [iadd m6 hx (by omega) (by omega)]; omega)
      have m7 := imul (x := 7) cI7 h3 (by omega) (by omega)
      have a7 := iadd m7 hb (by omega) (by omega)
      have m67 := imul (x := 6) cI6 a7 (by omega) (by omega)
      have i2 : (6 * (7 * x3 + xb) + x).toNatClampNeg = 6 * (7 * n + b) + p := clamp_toInt (by rw [iadd m67 hx (by omega) (by omega)]; omega)
      rw [i1, i2]
      refine ih (p + 1) (x + 1) (u2 I tr (6 * k + p) (I sR (6 * (7 * n + b) + p))) (by rw [add1 (b := 7) (by omega) (by omega), hx]; omega) (by omega) (by omega) (fun c h => by rw [u2_ne h, hc c h]) (fun q => ?_)
      by_cases z : q = 6 * k + p
      · rw [z, u2_at, hc sR nn, if_pos (by omega), show 6 * (7 * n + b) + (6 * k + p - 6 * k) = 6 * (7 * n + b) + p by omega]
      · rw [u2_nk z, hI q]
        by_cases z2 : 6 * k ≤ q ∧ q < 6 * k + p
        · rw [if_pos z2, if_pos (by omega)]
        · rw [if_neg z2, if_neg (by omega)]
theorem best_l (v32 : R mo 32 = some tc) (v33 : R mo 33 = some tm) (v34 : R mo 34 = some tr) (v35 : R mo 35 = some sc) (v36 : R mo 36 = some sR) (n1 : sR ≠ tr) (n2 : sR ≠ tc) (n3 : sR ≠ tm) (n4 : tr ≠ tc) (n5 : tr ≠ tm) (n6 : tc ≠ tm) {K : hI → hJ → hR → Int32 → hU} {xb : Int32} {a b : Nat} (ha : x1.toInt = a) (hb : xb.toInt = b) (ba : a < 7) (bb : b < 7) {I : hI} :
    ∀ (f n m : Nat) (x3 x4 : Int32), x3.toInt = n → x4.toInt = m → n < m → m ≤ 7 → 7 < f + m → (∀ k, k < m → Lv I sc n b ≤ Lv I sc k b) → (∀ k, k < n → Lv I sc n b < Lv I sc k b) →
      ∃ I1 n0, F_X11_turningsFrom_268 mo x1 xb K f I J R x3 x4 = K I1 J R (xb + 1) ∧ n0 < 7 ∧ (∀ k, k < 7 → Lv I sc n0 b ≤ Lv I sc k b) ∧ (∀ k, k < n0 → Lv I sc n0 b < Lv I sc k b) ∧ (∀ c, c ≠ tc → c ≠ tm → c ≠ tr → I1 c = I c) ∧ (∀ q, q ≠ 7 * a + b → I1 tc q = I tc q ∧ I1 tm q = I tm q) ∧ (∀ q, (q < 6 * (7 * a + b) ∨ 6 * (7 * a + b) + 6 ≤ q) → I1 tr q = I tr q) ∧
        (I1 tc (7 * a + b)).toInt = Lv I sc n0 b ∧ (I1 tm (7 * a + b)).toInt = n0 ∧ ∀ k, k < n0 → I1 tr (6 * (7 * a + b) + k) = I sR (6 * (7 * n0 + b) + k) := by
  intro f
  induction f with
  | zero => intro n m x3 x4 _ _ _ q1 q2; omega
  | succ f ih =>
    intro n m x3 x4 h3 h4 hnm hm hf hmin hfst
    rw [F_X11_turningsFrom_268_s]
    simp only [B_X11_turningsFrom_268, F_X11_turningsFrom_307, nm, v32, v33, v35, Option.getD_some]
    have m3 := imul (x := 7) cI7 h3 (by omega) (by omega)
    have a3 := iadd m3 hb (by omega) (by omega)
    have i3 : (7 * x3 + xb).toNatClampNeg = 7 * n + b := clamp_toInt (by rw [a3]; omega)
    rw [i3]
    by_cases e : m = 7
    · rw [if_pos (by rw [ile, h4, cI7]; omega)]
      have m1 := imul (x := 7) cI7 ha (by omega) (by omega)
      have a1 := iadd m1 hb (by omega) (by omega)
      have i1 : (7 * x1 + xb).toNatClampNeg = 7 * a + b := clamp_toInt (by rw [a1]; omega)
      rw [i1]
      obtain ⟨I1, c1, c2, c3⟩ := rcopy_l (mo := mo) (J := J) (x1 := x1) (K := K) (x3 := x3) (x4 := 7 * x1 + xb) (b := b) (n := n) (k := 7 * a + b) v34 v36 n1 hb h3 (by rw [a1]; omega) bb (by omega) (by omega) (I0 := u2 (u2 I tc (7 * a + b) (I sc (7 * n + b))) tm (7 * a + b) x3) 7 0 0 _ (by decide) (by omega) (by omega) (fun _ _ => rfl) (fun q => by rw [if_neg (by omega)])
      refine ⟨I1, n, c1, by omega, fun k hk => hmin k (by omega), hfst, fun c h1 h2 h3 => by rw [c2 c h3, u2_ne h2, u2_ne h1], fun q hq => ⟨?_, ?_⟩, fun q hq => ?_, ?_, ?_, fun k hk => ?_⟩
      · rw [c2 tc (fun h => n4 h.symm), u2_ne n6, u2_nk hq]
      · rw [c2 tm (fun h => n5 h.symm), u2_nk hq, u2_ne (fun h => n6 h.symm)]
      · rw [c3 q, if_neg (by omega), u2_ne n5, u2_ne n4]
      · rw [c2 tc (fun h => n4 h.symm), u2_ne n6, u2_at]; rfl
      · rw [c2 tm (fun h => n5 h.symm), u2_at, h3]
      · rw [c3, if_pos (by omega), u2_ne n3, u2_ne n2, show 6 * (7 * n + b) + (6 * (7 * a + b) + k - 6 * (7 * a + b)) = 6 * (7 * n + b) + k by omega]
    · rw [if_neg (by rw [ile, h4, cI7]; omega)]
      have m4 := imul (x := 7) cI7 h4 (by omega) (by omega)
      have a4 := iadd m4 hb (by omega) (by omega)
      have i4 : (7 * x4 + xb).toNatClampNeg = 7 * m + b := clamp_toInt (by rw [a4]; omega)
      rw [i4]
      have h41 : (x4 + 1).toInt = ((m + 1 : Nat) : Int) := by rw [add1 (b := 7) (by omega) (by omega), h4]; omega
      by_cases q : I sc (7 * n + b) ≤ I sc (7 * m + b)
      · rw [if_pos q]
        have q1 : Lv I sc n b ≤ Lv I sc m b := Rg_le q
        exact ih n (m + 1) x3 (x4 + 1) h3 h41 (by omega) (by omega) (by omega) (fun k hk => by
          by_cases z : k = m
          · rw [z]; exact q1
          · exact hmin k (by omega)) hfst
      · rw [if_neg q]
        have q1 : Lv I sc m b < Lv I sc n b := Rg_nle q
        exact ih m (m + 1) x4 (x4 + 1) h4 h41 (by omega) (by omega) (by omega) (fun k hk => by
          by_cases z : k = m
          · rw [z]; exact Int.le_refl _
          · have := hmin k (by omega); omega) (fun k hk => by have := hmin k hk; omega)
theorem res_l (v32 : R mo 32 = some tc) (v33 : R mo 33 = some tm) (v34 : R mo 34 = some tr) (v35 : R mo 35 = some sc) (v36 : R mo 36 = some sR) (n1 : sR ≠ tr) (n2 : sR ≠ tc) (n3 : sR ≠ tm) (n4 : tr ≠ tc) (n5 : tr ≠ tm) (n6 : tc ≠ tm) (n7 : sc ≠ tc) (n8 : sc ≠ tm) (n9 : sc ≠ tr) {a : Nat} (ha : x1.toInt = a) (ba : a < 7) {I0 : hI} :
    ∀ (f p : Nat) (x : Int32) (I : hI), x.toInt = p → p ≤ 7 → 7 < f + p → (∀ c, c ≠ tc → c ≠ tm → c ≠ tr → I c = I0 c) → (∀ q, (q < 7 * a ∨ 7 * a + 7 ≤ q) → I tc q = I0 tc q ∧ I tm q = I0 tm q) → (∀ q, (q < 42 * a ∨ 42 * a + 42 ≤ q) → I tr q = I0 tr q) →
      (∀ b, b < p → ∃ n0, n0 < 7 ∧ (∀ k, k < 7 → Lv I0 sc n0 b ≤ Lv I0 sc k b) ∧ (∀ k, k < n0 → Lv I0 sc n0 b < Lv I0 sc k b) ∧ (I tc (7 * a + b)).toInt = Lv I0 sc n0 b ∧ (I tm (7 * a + b)).toInt = n0 ∧ ∀ k, k < n0 → I tr (6 * (7 * a + b) + k) = I0 sR (6 * (7 * n0 + b) + k)) →
      ∃ I1, F_X11_turningsFrom_257 mo x1 f I J R x = (I1, J, R) ∧ (∀ c, c ≠ tc → c ≠ tm → c ≠ tr → I1 c = I0 c) ∧ (∀ q, (q < 7 * a ∨ 7 * a + 7 ≤ q) → I1 tc q = I0 tc q ∧ I1 tm q = I0 tm q) ∧ (∀ q, (q < 42 * a ∨ 42 * a + 42 ≤ q) → I1 tr q = I0 tr q) ∧
        ∀ b, b < 7 → ∃ n0, n0 < 7 ∧ (∀ k, k < 7 → Lv I0 sc n0 b ≤ Lv I0 sc k b) ∧ (∀ k, k < n0 → Lv I0 sc n0 b < Lv I0 sc k b) ∧ (I1 tc (7 * a + b)).toInt = Lv I0 sc n0 b ∧ (I1 tm (7 * a + b)).toInt = n0 ∧ ∀ k, k < n0 → I1 tr (6 * (7 * a + b) + k) = I0 sR (6 * (7 * n0 + b) + k) := by
  intro f
  induction f with
  | zero => intro p x I _ q1 q2; omega
  | succ f ih =>
    intro p x I hx hp hf hc h1 h2 hI
    rw [F_X11_turningsFrom_257_s]
    simp only [B_X11_turningsFrom_257]
    by_cases e : p = 7
    · rw [if_pos (by rw [ile, hx, cI7]; omega)]
      subst e
      exact ⟨I, rfl, hc, h1, h2, hI⟩
    · rw [if_neg (by rw [ile, hx, cI7]; omega)]
      have eL : ∀ n v, Lv I sc n v = Lv I0 sc n v := fun n v => by unfold Lv; rw [hc sc n7 n8 n9]
      obtain ⟨I1, n0, c1, c2, c3, c4, c5, c6, c7, c8, c9, c10⟩ := best_l (J := J) (x1 := x1) (K := F_X11_turningsFrom_257 mo x1 f) v32 v33 v34 v35 v36 n1 n2 n3 n4 n5 n6 ha hx ba (show p < 7 by omega) (I := I) 7 0 1 0 1 (by decide) (by decide) (by omega) (by omega) (by omega) (fun k hk => by rw [show k = 0 by omega]; exact Int.le_refl _) (fun k hk => by omega)
      rw [show ((7 - (1 : Int32).toInt).toNat + 1) = 7 by decide, c1]
      simp only [eL] at c3 c4 c8
      refine ih (p + 1) (x + 1) I1 (by rw [add1 (b := 7) (by omega) (by omega), hx]; omega) (by omega) (by omega) (fun c z1 z2 z3 => by rw [c5 c z1 z2 z3, hc c z1 z2 z3]) (fun q hq => ?_) (fun q hq => by rw [c7 q (by omega), h2 q hq]) (fun b hb => ?_)
      · obtain ⟨w1, w2⟩ := c6 q (by omega)
        rw [w1, w2]
        exact h1 q hq
      · by_cases z : b = p
        · subst z
          exact ⟨n0, c2, c3, c4, c8, c9, fun k hk => by rw [c10 k hk, hc sR n2 n3 n1]⟩
        · obtain ⟨k0, d1, d2, d3, d4, d5, d6⟩ := hI b (by omega)
          obtain ⟨w1, w2⟩ := c6 (7 * a + b) (by omega)
          exact ⟨k0, d1, d2, d3, by rw [w1]; exact d4, by rw [w2]; exact d5, fun k hk => by rw [c7 _ (by omega)]; exact d6 k hk⟩
end MT4
