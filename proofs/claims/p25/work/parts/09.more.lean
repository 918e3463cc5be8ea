theorem lc_lt {y : Int32} {a b : Int64} (e : y = lg_cmp a b) (q : y < 0) : a.toInt < b.toInt := by rw [e] at q; exact Int64.lt_iff_toInt_lt.mp ((lg_cmp_lt a b).mp q)
theorem lc_nlt {y : Int32} {a b : Int64} (e : y = lg_cmp a b) (q : ¬ y < 0) : b.toInt ≤ a.toInt := by rw [e, lg_cmp_lt, Int64.lt_iff_toInt_lt] at q; omega
theorem lc_gt {y : Int32} {a b : Int64} (e : y = lg_cmp a b) (q : 0 < y) : b.toInt < a.toInt := by rw [e] at q; exact Int64.lt_iff_toInt_lt.mp ((lg_cmp_gt a b).mp q)
theorem lc_ngt {y : Int32} {a b : Int64} (e : y = lg_cmp a b) (q : ¬ 0 < y) : a.toInt ≤ b.toInt := by rw [e, lg_cmp_gt, Int64.lt_iff_toInt_lt] at q; omega
theorem lc_ge {y : Int32} {a b : Int64} (e : y = lg_cmp a b) (q : 0 ≤ y) : b.toInt ≤ a.toInt := by rw [e] at q; exact Int64.le_iff_toInt_le.mp ((lg_cmp_ge a b).mp q)
theorem lc_nge {y : Int32} {a b : Int64} (e : y = lg_cmp a b) (q : ¬ 0 ≤ y) : a.toInt < b.toInt := by rw [e, lg_cmp_ge, Int64.le_iff_toInt_le] at q; omega
theorem lc_le {y : Int32} {a b : Int64} (e : y = lg_cmp a b) (q : y ≤ 0) : a.toInt ≤ b.toInt := by rw [e] at q; exact Int64.le_iff_toInt_le.mp ((lg_cmp_le a b).mp q)
theorem lc_nle {y : Int32} {a b : Int64} (e : y = lg_cmp a b) (q : ¬ y ≤ 0) : b.toInt < a.toInt := by rw [e, lg_cmp_le, Int64.le_iff_toInt_le] at q; omega
theorem lc_eq {y : Int32} {a b : Int64} (e : y = lg_cmp a b) (q : y = 0) : a.toInt = b.toInt := by rw [e] at q; rw [(lg_cmp_eq a b).mp q]
theorem lc_ne {y : Int32} {a b : Int64} (e : y = lg_cmp a b) (q : ¬ y = 0) : a.toInt ≠ b.toInt := by
  rw [e, lg_cmp_eq] at q
  exact fun h => q (Int64.toInt_inj.mp h)
theorem ne_role {C : Nat → Nat} {a b r q : Nat} (h1 : C a = r) (h2 : C b = q) (h : r ≠ q) : a ≠ b := fun e => h (by rw [← h1, ← h2, e])
theorem nm_arr {r k : Nat} {ms : List Nat} (hr : 32 ≤ r) (h : ms.contains (r * 64) = false) : mC r k ∉ ms := by
  unfold mC
  rw [if_neg (by omega)]
  intro q
  have : ms.contains (r * 64) = true := by simpa using q
  rw [h] at this
  cases this
theorem Rg_ne0 {x : Int32} {a b : Int} (r : Rg x a b) (q : 0 < a) : ¬ x = 0 := by
  intro h
  rw [h] at r
  have h1 := r.1
  have e0 : Int32.toInt 0 = 0 := by decide
  omega
theorem Rg_nat {x : Int32} {a b : Int} {n : Nat} (r : Rg x a b) (q : 0 ≤ a ∧ b < n) : x.toNatClampNeg < n := Nat.not_le.mp fun h => (Rg_in r q) (Or.inr h)
theorem clamp_toInt {x : Int32} {k : Nat} (h : x.toInt = k) : x.toNatClampNeg = k := by
  show x.toInt.toNat = k
  rw [h]; rfl
/-- the four places as a number to the base five -/
def val4 (f : Nat → Int32) : Int := 125 * (f 0).toInt + 25 * (f 1).toInt + 5 * (f 2).toInt + (f 3).toInt
def p5 (i : Int) : Int := if i = 3 then 1 else if i = 2 then 5 else if i = 1 then 25 else if i = 0 then 125 else 625
theorem p5_pos (i : Int) : 0 < p5 i := by unfold p5; split <;> (try split) <;> (try split) <;> (try split) <;> omega
theorem p5_down {i j : Int} (h0 : 0 ≤ i) (h3 : i ≤ 3) (hj : j = i + -1) : p5 j = 5 * p5 i := by
  rcases (show i = 0 ∨ i = 1 ∨ i = 2 ∨ i = 3 by omega) with h | h | h | h <;> subst h <;> subst hj <;> decide
theorem val4_up {I : hI} {a : Nat} {i v : Int32} (r : Rg i 0 3) : val4 (u2 I a i.toNatClampNeg v a) = val4 (I a) + (v.toInt - (I a i.toNatClampNeg).toInt) * p5 i.toInt := by
  obtain ⟨h1, h2⟩ := r
  rw [u2_eq]
  rcases (show i.toInt = (0 : Nat) ∨ i.toInt = (1 : Nat) ∨ i.toInt = (2 : Nat) ∨ i.toInt = (3 : Nat) by omega) with h | h | h | h <;> rw [clamp_toInt h, h] <;> simp [val4, p5] <;> omega
theorem val4_le {L : List Nat} {C : Nat → Nat} {I : hI} {a : Nat} (o : OkI L C I) (ha : a ∈ L) (hC : C a = 90) : 0 ≤ val4 (I a) ∧ val4 (I a) ≤ 624 := by
  have q0 := o a ha 0 (by rw [hC]; decide)
  have q1 := o a ha 1 (by rw [hC]; decide)
  have q2 := o a ha 2 (by rw [hC]; decide)
  have q3 := o a ha 3 (by rw [hC]; decide)
  rw [hC] at q0 q1 q2 q3
  have e0 : rLo 90 0 = 0 ∧ rHi 90 0 = 4 := by decide
  have e1 : rLo 90 1 = 0 ∧ rHi 90 1 = 4 := by decide
  have e2 : rLo 90 2 = 0 ∧ rHi 90 2 = 4 := by decide
  have e3 : rLo 90 3 = 0 ∧ rHi 90 3 = 4 := by decide
  rw [e0.1, e0.2] at q0
  rw [e1.1, e1.2] at q1
  rw [e2.1, e2.2] at q2
  rw [e3.1, e3.2] at q3
  unfold val4
  omega
/-- a WORK that isn't a formula has a field -/
def XW (L : List Nat) (C : Nat → Nat) (I : hI) : Prop := ∀ a ∈ L, ∀ b ∈ L, C a = 75 → C b = 76 → ∀ k, k < 120 → (I a k).toInt ≠ 0 → 0 ≤ (I b k).toInt
theorem XW.sm {L : List Nat} {C : Nat → Nat} {ms : List Nat} {u v : hU} (h : XW L C u.1) (s : Sm C ms u v) (h1 : ms.contains (75 * 64) = false) (h2 : ms.contains (76 * 64) = false) : XW L C v.1 := by
  intro a ha b hb ca cb k hk
  rw [(s a k (by rw [ca]; exact nm_arr (by decide) h1)).1, (s b k (by rw [cb]; exact nm_arr (by decide) h2)).1]
  exact h a ha b hb ca cb k hk
def XM (L : List Nat) (C : Nat → Nat) (I : hI) : Prop := ∀ a ∈ L, C a = 5 → (I a 4).toInt ≠ 0 → 0 ≤ (I a 5).toInt
theorem XM.sm {L : List Nat} {C : Nat → Nat} {ms : List Nat} {u v : hU} (h : XM L C u.1) (s : Sm C ms u v) (h1 : ms.contains (5 * 64 + 4) = false) (h2 : ms.contains (5 * 64 + 5) = false) : XM L C v.1 := by
  intro a ha ca
  rw [(s a 4 (by rw [ca]; exact fun q => by have : ms.contains (5 * 64 + 4) = true := (by simpa [mC] using q); rw [h1] at this; cases this)).1, (s a 5 (by rw [ca]; exact fun q => by have : ms.contains (5 * 64 + 5) = true := (by simpa [mC] using q); rw [h2] at this; cases this)).1]
  exact h a ha ca
/-- roles of which there is one cell alone -/
def rU (r : Nat) : Bool := !(r == 5 || r == 7 || r == 53 || r == 54 || r == 55 || r == 56 || r == 58 || r == 59 || r == 60) && (r < 12 || 32 ≤ r)
def Uq (L : List Nat) (C : Nat → Nat) : Prop := ∀ a ∈ L, ∀ b ∈ L, C a = C b → rU (C a) = true → a = b
theorem dg_step {w n : Nat} {l l' : Int} (h : l = ((w / 8 ^ n : Nat) : Int)) (hl : l' = l / 8) : l' = ((w / 8 ^ (n + 1) : Nat) : Int) := by
  rw [hl, h, Nat.pow_succ, ← Nat.div_div_eq_div_mul]
  generalize w / 8 ^ n = a
  omega
theorem XW.off {L : List Nat} {C : Nat → Nat} {I : hI} {a k r : Nat} {v : Int32} (h : XW L C I) (hC : C a = r) (h1 : r ≠ 75) (h2 : r ≠ 76) : XW L C (u2 I a k v) := by
  intro x hx y hy cx cy j hj
  rw [u2_ne (ne_role cx hC (fun e => h1 e.symm)), u2_ne (ne_role cy hC (fun e => h2 e.symm))]
  exact h x hx y hy cx cy j hj
theorem XW.put {L : List Nat} {C : Nat → Nat} {I : hI} {a b k : Nat} {v1 v2 : Int32} (u : Uq L C) (h : XW L C I) (ha : a ∈ L) (ca : C a = 75) (hb : b ∈ L) (cb : C b = 76) (hv : v1.toInt ≠ 0 → 0 ≤ v2.toInt) : XW L C (u2 (u2 I a k v1) b k v2) := by
  intro x hx y hy cx cy j hj
  have e1 : x = a := u x hx a ha (cx.trans ca.symm) (by rw [cx]; decide)
  have e2 : y = b := u y hy b hb (cy.trans cb.symm) (by rw [cy]; decide)
  subst e1; subst e2
  have ne : x ≠ y := ne_role cx cy (by decide)
  rw [u2_ne ne]
  by_cases hk : j = k
  · subst hk
    rw [u2_at, u2_at]
    exact hv
  · rw [u2_nk hk, u2_nk hk, u2_nk hk]
    exact h x hx y hy cx cy j hj
theorem XM.off {L : List Nat} {C : Nat → Nat} {I : hI} {a k r : Nat} {v : Int32} (h : XM L C I) (hC : C a = r) (h1 : r ≠ 5 ∨ (k ≠ 4 ∧ k ≠ 5)) : XM L C (u2 I a k v) := by
  intro x hx cx
  rcases h1 with h1 | ⟨h1, h2⟩
  · rw [u2_ne (ne_role cx hC (fun e => h1 e.symm))]
    exact h x hx cx
  · rw [u2_nk (fun e => h1 e.symm), u2_nk (fun e => h2 e.symm)]
    exact h x hx cx
theorem XM.put {L : List Nat} {C : Nat → Nat} {I : hI} {a : Nat} {v1 v2 : Int32} (h : XM L C I) (hv : v1.toInt ≠ 0 → 0 ≤ v2.toInt) : XM L C (u2 (u2 I a 4 v1) a 5 v2) := by
  intro x hx cx
  by_cases e : x = a
  · subst e
    rw [u2_at, u2_nk (by decide), u2_at]
    exact hv
  · rw [u2_ne e, u2_ne e]
    exact h x hx cx
def cp2 (I : hI) (a b sp dp n : Nat) : hI := fun x => if x = b then va_cpy (I a) (I b) sp dp n else I x
theorem cp2_ne {I : hI} {a b sp dp n x : Nat} (h : x ≠ b) : cp2 I a b sp dp n x = I x := by simp [cp2, h]
theorem cp2_eq {I : hI} {a b sp dp n : Nat} : cp2 I a b sp dp n b = va_cpy (I a) (I b) sp dp n := by simp [cp2]
theorem OkI.cp {L : List Nat} {C : Nat → Nat} {I : hI} {a b r0 r1 sp dp n : Nat} (h : OkI L C I) (m0 : a ∈ L) (c0 : C a = r0) (c1 : C b = r1) (x0 : rX r0 = true) (h4 : sp + n ≤ rN r0) (hb : ∀ k, rLo r1 k = 0 ∧ rHi r1 k = 9 ∧ rLo r0 k = 0 ∧ rHi r0 k = 9) : OkI L C (cp2 I a b sp dp n) := by
  intro x hx j hj
  by_cases e : x = b
  · subst e
    rw [cp2_eq]
    by_cases hin : dp ≤ j ∧ j < dp + n
    · have e1 : va_cpy (I a) (I x) sp dp n j = I a (sp + (j - dp)) := by simp [va_cpy, hin]
      rw [e1, c1, (hb j).1, (hb j).2.1]
      have q := h a m0 (sp + (j - dp)) (by rw [c0]; omega)
      rw [c0, (hb _).2.2.1, (hb _).2.2.2] at q
      exact ⟨q.1, q.2.1, fun _ => q.2.2 x0⟩
    · have e1 : va_cpy (I a) (I x) sp dp n j = I x j := by simp [va_cpy, hin]
      rw [e1]
      exact h x hx j hj
  · rw [cp2_ne e]
    exact h x hx j hj
theorem Sm.cp {C : Nat → Nat} {ms : List Nat} {u : hU} {I : hI} {J : hJ} {R : hR} {a b r sp dp n : Nat} (h : Sm C ms u (I, J, R)) (hC : C b = r) (hr : 32 ≤ r) (hm : ms.contains (r * 64) = true) : Sm C ms u (cp2 I a b sp dp n, J, R) := by
  intro x j hn
  obtain ⟨a1, a2, a3⟩ := h x j hn
  refine ⟨?_, a2, a3⟩
  rw [← a1]
  show cp2 I a b sp dp n x j = I x j
  rw [cp2_ne (fun e => hn (by rw [e, hC]; exact mC_arr hr hm))]
section CPY
variable {p : Program} {l : Launch} {e : Env} {Rm : Room} {s : State} {m : MethodId} {args : Array Value} {below : List Frame} {meth : Method} {c : Code} {H H0 : Heap} {locs : List Loc} {cells slots : Nat} {Q : State → Prop}
variable {cc : ByteArray} {pc : Nat} {ls : Array Slot} {rest : List Value} {own : String}
variable {D : va_G} {cy : Nat → ClassId} {L : List Nat} {C : Nat → Nat} {b0 : Nat} {I : hI} {J : hJ} {R : hR}
theorem hCpy {a b r0 r1 idx : Nat} {sp dp n : Int32} (hx : p.tables.exec = Jvm.exec) (hb : c.code = cc) (hml : c.maxLocals = ls.size) (hown : s.vm.findClass own = some m.cls) (hts : ∀ w ∈ wG, w.before args s = true) (hl : Cond.methodLink own idx arraycopyName ∈ wG) (hH : Hp D cy L C b0 s H0 I J R H locs)
    (m0 : a ∈ L) (c0 : C a = r0) (t0 : rT r0 = 12) (m1 : b ∈ L) (c1 : C b = r1) (t1 : rT r1 = 12) (h1 : ¬ sp < 0) (h2 : ¬ dp < 0) (h3 : ¬ n < 0) (h4 : sp.toNatClampNeg + n.toNatClampNeg ≤ rN r0) (h5 : dp.toNatClampNeg + n.toNatClampNeg ≤ rN r1)
    (hfr : 1 ≤ Rm.frames) (hlo : (rest.map fun v => v.category).sum + (nativeFrameWords "java/lang/System" "arraycopy" 5 + 11) ≤ Rm.locals) (hdg : decode cc pc = .ok (.invokestatic idx, 3))
    (kk : ∀ (I1 : hI) (H1 : Heap) (locs1 : List Loc), I1 = cp2 I a b sp.toNatClampNeg dp.toNatClampNeg n.toNatClampNeg → Hp D cy L C b0 s H0 I1 J R H1 locs1 → W p l e Rm s m args below meth c H1 locs1 cells slots Q (F0 m (pc + 3) ls rest)) : W p l e Rm s m args below meth c H locs cells slots Q (F0 m pc ls (.int n :: .int dp :: .ref b :: .int sp :: .ref a :: rest)) := by
  subst c0; subst c1
  obtain ⟨q0, hq0⟩ := hq_at (cy := cy) (I := I) (J := J) (R := R) m0 (eE_I t0)
  obtain ⟨q1, hq1⟩ := hq_at (cy := cy) (I := I) (J := J) (R := R) m1 (eE_I t1)
  have e1 := hset (I1 := cp2 I a b sp.toNatClampNeg dp.toNatClampNeg n.toNatClampNeg) (J1 := J) (R1 := R) (E := .inl (cy 0, rN (C b), .inl (va_cpy (I a) (I b) sp.toNatClampNeg dp.toNatClampNeg n.toNatClampNeg))) hH.2.2.1 m1 (eE_I t1) hq1 (by rw [eE_I t1, cp2_eq]) (fun x h => by simp only [eE, eO, eF, cp2_ne h])
  refine va_copyi hx hb hml hown (hts _ hl) (hts _ kn_arraycopyName) (hts _ ks_arraycopyName) (hts _ kini_J10) hH.1 hH.2.1 hH.2.2.1 hH.2.2.2.1 q0 q1 0 0 hq0 hq1 rfl rfl rfl h1 h2 h3 h4 h5 (fun i hi => rfl) hfr hlo hdg (fun H1 locs1 g1 g2 g3 => ?_)
  rw [e1] at g1 g2
  exact kk _ H1 locs1 rfl ⟨hH.1, g1, g2, g3, hH.2.2.2.2.1, hH.2.2.2.2.2⟩
end CPY
theorem Rg_shr3 {x : Int32} {a b a' b' : Int} (h : Rg x a b) (q : 0 ≤ a ∧ a' ≤ a / 8 ∧ b / 8 ≤ b') : (x >>> ((3 : Int32) &&& 31)).toInt = x.toInt / 8 ∧ Rg (x >>> ((3 : Int32) &&& 31)) a' b' := by
  have h0 : 0 ≤ x.toInt := Int.le_trans q.1 h.1
  obtain ⟨j, hj, e⟩ := nI_of (x := x) (fun z => by have h9 := Rg_lt z; rw [show Int32.toInt 0 = 0 by decide] at h9; omega)
  have e1 : (x >>> ((3 : Int32) &&& 31)).toInt = x.toInt / 8 := by
    rw [e, pk_shrN hj _ 3 (by decide), nI_toInt (by omega), nI_toInt hj]
    omega
  refine ⟨e1, ?_⟩
  unfold Rg at *
  rw [e1]
  omega
theorem and7_mod {x : Int32} {a b : Int} (h : Rg x a b) (q : 0 ≤ a) : (x &&& 7).toInt = x.toInt % 8 := by
  have h0 : 0 ≤ x.toInt := Int.le_trans q h.1
  obtain ⟨j, hj, e⟩ := nI_of (x := x) (fun z => by have h9 := Rg_lt z; rw [show Int32.toInt 0 = 0 by decide] at h9; omega)
  rw [e, pk_andN (by omega) 3 (by decide), nI_toInt (by omega), nI_toInt hj]
  omega
/-- told ARGUMENTS and result: digits of eight, the first the result, then none that is 0 up to the last -/
def Dg (d : Int) : Prop := 0 ≤ d ∧ d % 8 ≤ 6 ∧ ∃ n : Nat, n ≤ 4 ∧ (∀ j, j < n → d.toNat / 8 / 8 ^ j % 8 ≠ 0) ∧ d.toNat / 8 / 8 ^ n = 0
theorem Dg.digit {d : Int} (h : Dg d) {i : Nat} (hi : d.toNat / 8 / 8 ^ i ≠ 0) : d.toNat / 8 / 8 ^ i % 8 ≠ 0 := by
  obtain ⟨-, -, n, hn, h1, h2⟩ := h
  by_cases hin : i < n
  · exact h1 i hin
  · exfalso
    apply hi
    have e : 8 ^ i = 8 ^ n * 8 ^ (i - n) := by rw [← Nat.pow_add]; congr 1; omega
    rw [e, ← Nat.div_div_eq_div_mul, h2, Nat.zero_div]
theorem Rg_ne0i {x : Int32} {a b : Int} (r : Rg x a b) (q : 0 < a) : x.toInt ≠ 0 := by have := r.1; omega
/-- object(): the answer and the count behind it -/
def objF (sz a : Int32) : Int32 × Int32 := if 0 ≤ a.toInt ∧ a.toInt ≤ 9 then (if sz.toInt ≤ 19 then (sz, sz + 1) else (-5, sz)) else (-3, sz)
theorem objF_out {sz a : Int32} (h : ¬ (0 ≤ a.toInt ∧ a.toInt ≤ 9)) : objF sz a = (-3, sz) := by unfold objF; rw [if_neg h]
theorem objF_full {sz a : Int32} (h : 0 ≤ a.toInt ∧ a.toInt ≤ 9) (h2 : ¬ sz.toInt ≤ 19) : objF sz a = (-5, sz) := by unfold objF; rw [if_pos h, if_neg h2]
theorem objF_ok {sz a : Int32} (h : 0 ≤ a.toInt ∧ a.toInt ≤ 9) (h2 : sz.toInt ≤ 19) : objF sz a = (sz, sz + 1) := by unfold objF; rw [if_pos h, if_pos h2]
/-- put(): the answer -/
def putF (sz ob fl : Int32) : Int32 := if 0 ≤ ob.toInt ∧ ob.toInt < sz.toInt then (if 0 ≤ fl.toInt ∧ fl.toInt ≤ 2 then 0 else -3) else -2
theorem putF_no {sz ob fl : Int32} (h : ¬ (0 ≤ ob.toInt ∧ ob.toInt < sz.toInt)) : putF sz ob fl = -2 := by unfold putF; rw [if_neg h]
theorem putF_out {sz ob fl : Int32} (h : 0 ≤ ob.toInt ∧ ob.toInt < sz.toInt) (h2 : ¬ (0 ≤ fl.toInt ∧ fl.toInt ≤ 2)) : putF sz ob fl = -3 := by unfold putF; rw [if_pos h, if_neg h2]
theorem putF_ok {sz ob fl : Int32} (h : 0 ≤ ob.toInt ∧ ob.toInt < sz.toInt) (h2 : 0 ≤ fl.toInt ∧ fl.toInt ≤ 2) : putF sz ob fl = 0 := by unfold putF; rw [if_pos h, if_pos h2]
theorem i32_back {r y z : Int32} (h1 : r.toInt = y.toInt - 1) (h2 : y.toInt = z.toInt + 1) : r = z := Int32.toInt_inj.mp (by omega)
def up (f : Nat → Int32) (k : Nat) (v : Int32) : Nat → Int32 := fun j => if j = k then v else f j
theorem u2_up {f : hI} {a k : Nat} {v : Int32} : u2 f a k v a = up (f a) k v := u2_eq
/-- rule(): when it is right, its answer, the count and what is there behind it -/
def ruleOk (x1 x2 x3 x4 : Int32) : Prop := (0 ≤ x1.toInt ∧ x1.toInt ≤ 6) ∧ (0 ≤ x2.toInt ∧ x2.toInt ≤ 6) ∧ x1.toInt ≠ x2.toInt ∧ (1 ≤ x3.toInt ∧ x3.toInt ≤ 50) ∧ 0 ≤ x4.toInt ∧ x4.toInt / 10000 ≤ 2000 ∧ x4.toInt % 10000 ≤ 2000
noncomputable def ruleR (t x1 x2 x3 x4 : Int32) : Int32 := @ite _ (ruleOk x1 x2 x3 x4) (Classical.propDecidable _) (if t.toInt ≤ 31 then t else -5) (-3)
noncomputable def ruleT (t x1 x2 x3 x4 : Int32) : Int32 := @ite _ (ruleOk x1 x2 x3 x4 ∧ t.toInt ≤ 31) (Classical.propDecidable _) (t + 1) t
noncomputable def ruleH (t : Int32) (h : Nat → Int32) (x1 x2 x3 x4 v : Int32) : Nat → Int32 := @ite _ (ruleOk x1 x2 x3 x4 ∧ t.toInt ≤ 31) (Classical.propDecidable _) (up h t.toNatClampNeg v) h
theorem rule_out {t x1 x2 x3 x4 : Int32} (h : ¬ ruleOk x1 x2 x3 x4) : ruleR t x1 x2 x3 x4 = -3 ∧ ruleT t x1 x2 x3 x4 = t ∧ ∀ f v, ruleH t f x1 x2 x3 x4 v = f := ⟨by unfold ruleR; rw [if_neg h], by unfold ruleT; rw [if_neg (fun q => h q.1)], fun f v => by unfold ruleH; rw [if_neg (fun q => h q.1)]⟩
theorem rule_full {t x1 x2 x3 x4 : Int32} (h : ruleOk x1 x2 x3 x4) (h2 : ¬ t.toInt ≤ 31) : ruleR t x1 x2 x3 x4 = -5 ∧ ruleT t x1 x2 x3 x4 = t ∧ ∀ f v, ruleH t f x1 x2 x3 x4 v = f := ⟨by unfold ruleR; rw [if_pos h, if_neg h2], by unfold ruleT; rw [if_neg (fun q => h2 q.2)], fun f v => by unfold ruleH; rw [if_neg (fun q => h2 q.2)]⟩
theorem rule_ok {t x1 x2 x3 x4 : Int32} (h : ruleOk x1 x2 x3 x4) (h2 : t.toInt ≤ 31) : ruleR t x1 x2 x3 x4 = t ∧ ruleT t x1 x2 x3 x4 = t + 1 ∧ ∀ f v, ruleH t f x1 x2 x3 x4 v = up f t.toNatClampNeg v := ⟨by unfold ruleR; rw [if_pos h, if_pos h2], by unfold ruleT; rw [if_pos ⟨h, h2⟩], fun f v => by unfold ruleH; rw [if_pos ⟨h, h2⟩]⟩
/-- drop() -/
def dropOk (t : Int32) (h : Nat → Int32) (x : Int32) : Prop := 12 ≤ x.toInt ∧ x.toInt < t.toInt ∧ (h x.toNatClampNeg).toInt ≠ 0
noncomputable def dropR (t : Int32) (h : Nat → Int32) (x : Int32) : Int32 := @ite _ (dropOk t h x) (Classical.propDecidable _) 1 (-2)
noncomputable def dropH (t : Int32) (h : Nat → Int32) (x : Int32) : Nat → Int32 := @ite _ (dropOk t h x) (Classical.propDecidable _) (up h x.toNatClampNeg 0) h
theorem drop_no {t x : Int32} {h : Nat → Int32} (q : ¬ dropOk t h x) : dropR t h x = -2 ∧ dropH t h x = h := ⟨by unfold dropR; rw [if_neg q], by unfold dropH; rw [if_neg q]⟩
theorem drop_ok {t x : Int32} {h : Nat → Int32} (q : dropOk t h x) : dropR t h x = 1 ∧ dropH t h x = up h x.toNatClampNeg 0 := ⟨by unfold dropR; rw [if_pos q], by unfold dropH; rw [if_pos q]⟩
/-- which values are of a sort -/
def isOfP (s : Int) (v : Int) : Prop := (s = 0 → -128 ≤ v ∧ v ≤ 127) ∧ (s = 1 → -32768 ≤ v ∧ v ≤ 32767) ∧ (s = 2 → -2147483648 ≤ v ∧ v ≤ 2147483647) ∧ (s = 4 → 0 ≤ v ∧ v ≤ 1) ∧ (s = 6 → 0 ≤ v ∧ v ≤ 127)
/-- constant() -/
def conOk (s z : Int32) (v : Int64) : Prop := (0 ≤ s.toInt ∧ s.toInt ≤ 6) ∧ (z.toInt ≠ 0 → isOfP s.toInt v.toInt)
noncomputable def conR (h : Nat → Int32) (s z : Int32) (v : Int64) : Int32 := @ite _ (conOk s z v) (Classical.propDecidable _) (if (h s.toNatClampNeg).toInt ≠ 0 then 1 else 0) (-3)
noncomputable def conH (h : Nat → Int32) (s z : Int32) (v : Int64) : Nat → Int32 := @ite _ (conOk s z v) (Classical.propDecidable _) (up h s.toNatClampNeg z) h
theorem con_no {h : Nat → Int32} {s z : Int32} {v : Int64} (q : ¬ conOk s z v) : conR h s z v = -3 ∧ conH h s z v = h := ⟨by unfold conR; rw [if_neg q], by unfold conH; rw [if_neg q]⟩
theorem con_1 {h : Nat → Int32} {s z : Int32} {v : Int64} (q : conOk s z v) (q2 : (h s.toNatClampNeg).toInt ≠ 0) : conR h s z v = 1 ∧ conH h s z v = up h s.toNatClampNeg z := ⟨by unfold conR; rw [if_pos q, if_pos q2], by unfold conH; rw [if_pos q]⟩
theorem con_0 {h : Nat → Int32} {s z : Int32} {v : Int64} (q : conOk s z v) (q2 : ¬ (h s.toNatClampNeg).toInt ≠ 0) : conR h s z v = 0 ∧ conH h s z v = up h s.toNatClampNeg z := ⟨by unfold conR; rw [if_pos q, if_neg q2], by unfold conH; rw [if_pos q]⟩
