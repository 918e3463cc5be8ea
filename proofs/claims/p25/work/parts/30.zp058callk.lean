/-! what is found can be turned -/
def VdO (af : Nat) (tc : Nat → Nat → Int) (n : Nat) (o : Option (Int × List Nat)) : Prop := ∀ q, o = some q → ∀ j, j < n → q.2.getD j 0 = 4 ∨ (q.2.getD j 0 < af ∧ 0 ≤ tc (q.2.getD j 0) j)
theorem VdO.sq {af n : Nat} {tc : Nat → Nat → Int} {o : Option (Int × List Nat)} {b : Int} {g : Int → Option (Int × List Nat)} (h1 : VdO af tc n o) (h2 : ∀ b, VdO af tc n (g b)) : VdO af tc n (sq o b g) := by
  intro q h
  cases hx : g (bd b o) with
  | none => rw [sq_none hx] at h; exact h1 q h
  | some p =>
    rw [sq_some hx] at h
    cases h
    exact h2 _ _ hx
theorem VdO.tl {af n : Nat} {tc : Nat → Nat → Int} {ch : Nat → Int → Option (Int × List Nat)} {b : Int} : ∀ m, (∀ d, d < m → ∀ b, VdO af tc n (ch d b)) → VdO af tc n (tl5 ch b m) := by
  intro m
  induction m with
  | zero => intro _ q h; cases h
  | succ m ih => intro h; exact VdO.sq (ih (fun d hd => h d (by omega))) (h m (by omega))
theorem tf_vd {af : Nat} {tc : Nat → Nat → Int} {hc : Nat → Bool} : ∀ (r i tk : Nat) (sf b : Int) (pre : List Nat), pre.length = i → (∀ j, j < i → pre.getD j 0 = 4 ∨ (pre.getD j 0 < af ∧ 0 ≤ tc (pre.getD j 0) j)) → VdO af tc (i + r) (tf af tc hc r i tk sf pre b) := by
  intro r
  induction r with
  | zero =>
    intro i tk sf b pre hl hp q h
    have h : (if sf + lft af tk < b then some (sf + lft af tk, pre) else none) = some q := h
    split at h
    · cases h
      exact hp
    · cases h
  | succ r ih =>
    intro i tk sf b pre hl hp
    rw [tf_s]
    refine VdO.tl 5 (fun d hd b q h => ?_)
    unfold chd at h
    cases hx : inc af tc hc i d tk with
    | none => rw [hx] at h; cases h
    | some x =>
      rw [hx] at h
      have hd4 : d = 4 ∨ (d < af ∧ 0 ≤ tc d i) := by
        unfold inc at hx
        by_cases e : d = 4
        · exact Or.inl e
        · rw [if_neg e] at hx
          split at hx
          · rename_i g
            exact Or.inr ⟨g.1, g.2.2⟩
          · cases hx
      have := ih (i + 1) (upt tk d) (sf + x) b (pre ++ [d]) (by rw [List.length_append, hl]; rfl) (fun j hj => by
        by_cases z : j = pre.length
        · rw [z, gd_r, hl]; exact hd4
        · rw [gd_l (by omega)]; exact hp j (by omega)) q h
      rw [show i + (r + 1) = i + 1 + r by omega]
      exact this
theorem foM_from {f : Nat → Option (Int × List Nat)} : ∀ (n m : Nat) (o : Option (Int × Nat × List Nat)) (q : Int × Nat × List Nat), foM f n m o = some q → o = some q ∨ (f q.2.1 = some (q.1, q.2.2) ∧ m ≤ q.2.1 ∧ q.2.1 < m + n) := by
  intro n
  induction n with
  | zero => intro m o q h; exact Or.inl h
  | succ n ih =>
    intro m o q h
    rcases ih (m + 1) _ q h with h1 | ⟨h1, h2, h3⟩
    · cases hx : f m with
      | none => rw [hx] at h1; exact Or.inl h1
      | some p =>
        rw [hx] at h1
        have h1 : (if p.1 < bo3 1000000 o then some (p.1, m, p.2) else o) = some q := h1
        split at h1
        · cases h1
          exact Or.inr ⟨hx, Nat.le_refl _, by show m < m + (n + 1); omega⟩
        · exact Or.inl h1
    · exact Or.inr ⟨h1, by omega, by omega⟩
/-- two sorts with a turning between them -/
def VpC (w : Nat) (I : hI) (x y : Int32) : Prop := (0 ≤ x.toInt ∧ x.toInt ≤ 6) ∧ (0 ≤ y.toInt ∧ y.toInt ≤ 6) ∧ (I w (x.toNatClampNeg * 7 + y.toNatClampNeg)).toInt < 268435456
theorem vpOf {I : hI} {J : hJ} {R : hR} {ru w : Nat} {x y : Int32} (v8 : R ru 8 = some w) (h0 : ∀ q, q < 49 → 0 ≤ (I w q).toInt) (hx : 0 ≤ x.toInt ∧ x.toInt ≤ 6) (hy : 0 ≤ y.toInt ∧ y.toInt ≤ 6) (h : 0 ≤ (F_X6_costBetween ru x y I J R).toInt) : VpC w I x y := by
  have n1 := nat_of hx.1
  have n2 := nat_of hy.1
  refine ⟨hx, hy, Classical.byContradiction fun hc => ?_⟩
  rw [costB (I := I) (J := J) v8 n1.symm n2.symm (by omega) (by omega) (h0 _ (by omega)), if_neg hc] at h
  omega
/-- what a found member and its places allow -/
theorem oC_vd {fi f b ru al co ct fs w : Nat} {I : hI} {J : hJ} {R : hR} {q : Int × Nat × List Nat} (v0 : R fi 0 = some ru) (v8 : R ru 8 = some w) (h0 : ∀ q, q < 49 → 0 ≤ (I w q).toInt) (hf1 : 0 ≤ (I f 1).toInt ∧ (I f 1).toInt ≤ 6) (vfs : R f 3 = some fs) (hfs : ∀ i, i < 4 → 0 ≤ (I fs i).toInt ∧ (I fs i).toInt ≤ 6) (hf4 : (I f 2).toNatClampNeg ≤ 4) {ma c cs : Nat} (vb : R b 0 = some ma) (vc : R ma q.2.1 = some c) (vcs : R c 3 = some cs) (hc1 : 0 ≤ (I c 1).toInt ∧ (I c 1).toInt ≤ 6) (hcs : ∀ i, i < 4 → 0 ≤ (I cs i).toInt ∧ (I cs i).toInt ≤ 6) (hc4 : (I c 2).toNatClampNeg ≤ 4) (h : oC fi f b I J R = some q) :
    (∀ j, j < (I c 2).toNatClampNeg → q.2.2.getD j 0 = 4 ∨ (q.2.2.getD j 0 < (I f 2).toNatClampNeg ∧ VpC w I (I fs (q.2.2.getD j 0)) (I cs j))) ∧ VpC w I (I c 1) (I f 1) := by
  unfold oC at h
  rcases foM_from _ _ _ _ h with h1 | ⟨h1, -, -⟩
  · cases h1
  · simp only [v0, vfs, vb, vc, vcs, Option.getD_some] at h1
    unfold svC at h1
    cases hs : stC ((R fi 1).getD 0) ru f c I J R with
    | none => rw [hs] at h1; cases h1
    | some s =>
      rw [hs] at h1
      have hcb : ¬ F_X6_costBetween ru (I c 1) (I f 1) I J R = -1 := fun e => by
        unfold stC at hs
        simp only [if_pos e] at hs
        split at hs
        · cases hs
        · split at hs
          · cases hs
          · cases hs
      have hge : 0 ≤ (F_X6_costBetween ru (I c 1) (I f 1) I J R).toInt := by
        have n1 := nat_of hc1.1
        have n2 := nat_of hf1.1
        have e := costB (I := I) (J := J) (R := R) (x1 := I c 1) (x2 := I f 1) v8 n1.symm n2.symm (by omega) (by omega) (h0 _ (by omega))
        by_cases g : (I w ((I c 1).toNatClampNeg * 7 + (I f 1).toNatClampNeg)).toInt < 268435456
        · rw [if_pos g] at e
          have := h0 ((I c 1).toNatClampNeg * 7 + (I f 1).toNatClampNeg) (by omega)
          omega
        · rw [if_neg g] at e
          exact absurd (Int32.toInt_inj.mp (by rw [e]; decide)) hcb
      refine ⟨fun j hj => ?_, vpOf v8 h0 hc1 hf1 hge⟩
      have := tf_vd (af := (I f 2).toNatClampNeg) (tc := tcC ru fs cs I J R) (hc := hcC ((R ((R fi 2).getD 0) 0).getD 0) cs I) (I c 2).toNatClampNeg 0 0 s 1000000 [] rfl (fun j hj => by omega) _ h1 j (by omega)
      refine this.imp id (fun ⟨g1, g2⟩ => ⟨g1, ?_⟩)
      unfold tcC at g2
      dsimp only at g1 g2
      rw [if_pos ⟨by omega, by omega⟩] at g2
      exact vpOf v8 h0 (hfs _ (by omega)) (hcs j (by omega)) g2
/-- a turning's work on a value -/
noncomputable def cvA (rt rb rm fi : Nat) (I : hI) (x y : Int32) (v : Int64) : Nat ⊕ Int64 := wkv (I rt) (I rb) (I rm) (gry (sr I rt) (fun u => (I fi (u * 7 + y.toNatClampNeg)).toNatClampNeg) y.toNatClampNeg 7 x.toNatClampNeg) v
theorem carC {I : hI} {R : hR} {ru rf rt rc rb rm rth w fi : Nat} (v1 : R ru 1 = some rt) (v3 : R ru 3 = some rb) (v4 : R ru 4 = some rm) (v9 : R ru 9 = some fi) (n1 : rt ≠ ru) (n3 : rb ≠ ru) (n4 : rm ≠ ru) (n9 : fi ≠ ru) (hr : Rl I ru rf rt rc) (hT : Tb I ru rf rt rc rth w fi) (hto : ∀ e, e < 32 → 0 ≤ (I rt e).toInt ∧ (I rt e).toInt ≤ 6) (hby : ∀ e, e < 32 → -1000 ≤ (I rb e).toInt ∧ (I rb e).toInt ≤ 1000) (hmo : ∀ e, e < 32 → -1000 ≤ (I rm e).toInt ∧ (I rm e).toInt ≤ 1000) (h7 : I rt 7 = 4) (h9 : I rt 9 = 3) : CarC ru (cvA rt rb rm fi I) (VpC w I) I R := by
  intro Ia J R' x y v hIa hR' hv
  obtain ⟨hx, hy, hd⟩ := hv
  have e1 := nat_of hx.1
  have e2 := nat_of hy.1
  have ha : x.toNatClampNeg < 7 := by omega
  have hrk : rk 7 (fun u => (I w (u * 7 + y.toNatClampNeg)).toInt) (I w (x.toNatClampNeg * 7 + y.toNatClampNeg)).toInt < 7 := rk_lt_n (u := x.toNatClampNeg) (Int.le_refl _) 7 ha
  obtain ⟨I1, J1, g1, g2, g3⟩ := carry_l (R := R') (x1 := x) (x3 := v) ((hR' 1).trans v1) ((hR' 3).trans v3) ((hR' 4).trans v4) ((hR' 9).trans v9) n1 n3 n4 n9 hr hT hto hby hmo h7 h9 e2.symm (show y.toNatClampNeg < 7 by omega) 8 7 x.toNatClampNeg 0 x 0 Ia (u2 J ru 10 v) (fun c hc => funext fun k => hIa c k (fun g => hc g.1)) e1.symm (by decide) ha hd (by omega) (by omega) (by omega)
  rw [u2_at] at g3
  refine ⟨I1, J1, fun z q h => (g1 z q h).trans (hIa z q h), fun z q h => (g2 z q h).trans (u2_off h), ?_⟩
  rcases g3 with ⟨z, z1, z2, z3⟩ | ⟨e, z1, z2, z3⟩
  · exact Or.inl ⟨z, z1, z2, z3⟩
  · exact Or.inr ⟨e, z1, z2, z3⟩
theorem carM {I K : hI} {R : hR} {ru rf rt rc rb rm rth w fi mo mt mb mp tc tm tr : Nat} (v3 : R mo 3 = some mt) (v5 : R mo 5 = some mb) (v6 : R mo 6 = some mp) (v33 : R mo 33 = some tm) (v34 : R mo 34 = some tr) (hr : Rl I ru rf rt rc) (hT : Tb I ru rf rt rc rth w fi) (hM : ∀ a, a < 7 → TbM K tc tm tr a (sr I rf) (sr I rt) (cs I rc) (pe I ru rth)) (hto : ∀ e, e < 32 → 0 ≤ (I rt e).toInt ∧ (I rt e).toInt ≤ 6) (hbm : ∀ e, e < 32 → -1000 ≤ (K mb e).toInt ∧ (K mb e).toInt ≤ 1000) (hmo : ∀ e, e < 32 → -1000 ≤ (I rm e).toInt ∧ (I rm e).toInt ≤ 1000) (kt : K mt = I rt) (kp : K mp = I rm) (kb : (fun e => if e = 8 then 10 else K mb e) = I rb) : CarM mo (cvA rt rb rm fi I) (VpC w I) K R := by
  intro J x y v xw hv
  obtain ⟨hx, hy, hd⟩ := hv
  have e1 := nat_of hx.1
  have e2 := nat_of hy.1
  have ha : x.toNatClampNeg < 7 := by omega
  have hb : y.toNatClampNeg < 7 := by omega
  rcases turn_eq (mo := mo) (mf := 0) (mt := mt) (mc := 0) (mi := 0) hr hT (hM _ ha) ha hb with ⟨q1, q2, q3, q4, q5, q6, q7⟩ | ⟨q1, -⟩
  · have n1 := nat_of q4.1
    have gm := gry_mem hr hT ha hb q1
    have ti := turnItE (I := K) (J := J) (x4 := xw) (x3 := v) v3 v5 v6 v33 v34 (by rw [kt]; exact hto) hbm (by rw [kp]; exact hmo) e1.symm e2.symm ha hb n1.symm (by omega) (fun k hk => ⟨q7 k hk, gm _ (by rw [← q6]; exact List.mem_of_getElem? (by rw [sfx_get, if_pos hk, Nat.zero_add]))⟩)
    rw [kt, kp, kb, q6] at ti
    obtain ⟨J1, g1, g2⟩ := ti
    refine ⟨J1, g1, ?_⟩
    rcases g2 with ⟨z, z1, z2, z3⟩ | ⟨e, z1, xe, z2, z3⟩
    · exact Or.inl ⟨z, z1, z2, z3⟩
    · exact Or.inr ⟨e, z1, xe, z2, z3⟩
  · omega
