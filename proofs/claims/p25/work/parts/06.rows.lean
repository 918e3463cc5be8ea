/-! intervals -/
def Rg (x : Int32) (a b : Int) : Prop := a ≤ x.toInt ∧ x.toInt ≤ b
theorem rg_bmod {z : Int} (h1 : -2147483648 ≤ z) (h2 : z ≤ 2147483647) : z.bmod (2 ^ 32) = z := by
  simp only [Int.bmod]
  split <;> omega
theorem Rg_any (x : Int32) : Rg x (-2147483648) 2147483647 := by
  have h1 := Int32.le_toInt x
  have h2 := Int32.toInt_lt x
  constructor <;> omega
theorem Rg_w {x : Int32} {a b a' b' : Int} (h : Rg x a b) (q : a' ≤ a ∧ b ≤ b') : Rg x a' b' := ⟨Int.le_trans q.1 h.1, Int.le_trans h.2 q.2⟩
theorem Rg_c {x : Int32} {a b : Int} (h : a ≤ x.toInt ∧ x.toInt ≤ b) : Rg x a b := h
theorem Rg_add {x y : Int32} {a b c d a' b' : Int} (h : Rg x a b) (k : Rg y c d) (q : (-2147483648 ≤ a + c ∧ b + d ≤ 2147483647) ∧ a' ≤ a + c ∧ b + d ≤ b') : (x + y).toInt = x.toInt + y.toInt ∧ Rg (x + y) a' b' := by
  have e : (x + y).toInt = x.toInt + y.toInt := by
    rw [Int32.toInt_add]
    exact rg_bmod (by have := h.1; have := k.1; omega) (by have := h.2; have := k.2; omega)
  refine ⟨e, ?_⟩
  unfold Rg at *
  rw [e]
  omega
theorem Rg_sub {x y : Int32} {a b c d a' b' : Int} (h : Rg x a b) (k : Rg y c d) (q : (-2147483648 ≤ a - d ∧ b - c ≤ 2147483647) ∧ a' ≤ a - d ∧ b - c ≤ b') : (x - y).toInt = x.toInt - y.toInt ∧ Rg (x - y) a' b' := by
  have e : (x - y).toInt = x.toInt - y.toInt := by
    rw [Int32.toInt_sub]
    exact rg_bmod (by have := h.1; have := k.2; omega) (by have := h.2; have := k.1; omega)
  refine ⟨e, ?_⟩
  unfold Rg at *
  rw [e]
  omega
theorem Rg_mul {x y : Int32} {a b c d a' b' : Int} (h : Rg x a b) (k : Rg y c d) (q : (0 ≤ a ∧ 0 ≤ c ∧ b * d ≤ 2147483647) ∧ a' ≤ a * c ∧ b * d ≤ b') : (x * y).toInt = x.toInt * y.toInt ∧ Rg (x * y) a' b' := by
  obtain ⟨⟨q1, q2, q3⟩, q4, q5⟩ := q
  obtain ⟨h1, h2⟩ := h
  obtain ⟨k1, k2⟩ := k
  have m1 : a * c ≤ x.toInt * y.toInt := Int.mul_le_mul h1 k1 q2 (Int.le_trans q1 h1)
  have m2 : x.toInt * y.toInt ≤ b * d := Int.mul_le_mul h2 k2 (Int.le_trans q2 k1) (Int.le_trans q1 (Int.le_trans h1 h2))
  have m0 : 0 ≤ a * c := Int.mul_nonneg q1 q2
  have e : (x * y).toInt = x.toInt * y.toInt := by
    rw [Int32.toInt_mul]
    exact rg_bmod (by omega) (by omega)
  refine ⟨e, ?_⟩
  unfold Rg
  rw [e]
  omega
theorem Rg_div {x y : Int32} {a b d a' b' : Int} (h : Rg x a b) (k : Rg y d d) (q : (0 ≤ a ∧ 0 < d) ∧ a' ≤ a / d ∧ b / d ≤ b') : (x / y).toInt = x.toInt / y.toInt ∧ Rg (x / y) a' b' := by
  obtain ⟨⟨q1, q2⟩, q4, q5⟩ := q
  have e : (x / y).toInt = x.toInt / y.toInt := by
    rw [Int32.toInt_div, Int.tdiv_eq_ediv_of_nonneg (Int.le_trans q1 h.1)]
    have hy : y.toInt = d := Int.le_antisymm k.2 k.1
    have hb := (Rg_any x).2
    have h0 : 0 ≤ x.toInt := Int.le_trans q1 h.1
    have h9 : x.toInt / y.toInt ≤ x.toInt := Int.ediv_le_self _ h0
    exact rg_bmod (by have := Int.ediv_nonneg h0 (b := y.toInt) (by omega); omega) (by omega)
  refine ⟨e, ?_⟩
  have hy : y.toInt = d := Int.le_antisymm k.2 k.1
  unfold Rg
  rw [e, hy]
  exact ⟨Int.le_trans q4 (Int.ediv_le_ediv q2 h.1), Int.le_trans (Int.ediv_le_ediv q2 h.2) q5⟩
theorem Rg_rem {x y : Int32} {a b d b' : Int} (h : Rg x a b) (k : Rg y d d) (q : (0 ≤ a ∧ 0 < d) ∧ d - 1 ≤ b') : (x - x / y * y).toInt = x.toInt % y.toInt ∧ Rg (x - x / y * y) 0 b' := by
  obtain ⟨⟨q1, q2⟩, q5⟩ := q
  have hy : y.toInt = d := Int.le_antisymm k.2 k.1
  have hx0 : 0 ≤ x.toInt := Int.le_trans q1 h.1
  have hxb := (Rg_any x).2
  have e1 := (Rg_div h k (a' := a / d) (b' := b / d) ⟨⟨q1, q2⟩, Int.le_refl _, Int.le_refl _⟩).1
  have m1 := Int.mul_ediv_self_le (x := x.toInt) (k := y.toInt) (by omega)
  have m0 : 0 ≤ x.toInt / y.toInt := Int.ediv_nonneg hx0 (by omega)
  have m2 : 0 ≤ x.toInt / y.toInt * y.toInt := Int.mul_nonneg m0 (by omega)
  have e2 : (x / y * y).toInt = x.toInt / y.toInt * y.toInt := by
    rw [Int32.toInt_mul, e1]
    exact rg_bmod (by omega) (by rw [Int.mul_comm]; omega)
  have e3 : (x - x / y * y).toInt = x.toInt - x.toInt / y.toInt * y.toInt := by
    rw [Int32.toInt_sub, e2]
    have : x.toInt / y.toInt * y.toInt ≤ x.toInt := by rw [Int.mul_comm]; exact m1
    exact rg_bmod (by omega) (by omega)
  have e4 : x.toInt - x.toInt / y.toInt * y.toInt = x.toInt % y.toInt := by
    rw [Int.emod_def, Int.mul_comm]
  refine ⟨e3.trans e4, ?_⟩
  unfold Rg
  rw [e3, e4, hy]
  have := Int.emod_nonneg x.toInt (b := d) (by omega)
  have := Int.emod_lt_of_pos x.toInt q2
  omega
theorem Rg_lt {x y : Int32} (h : x < y) : x.toInt < y.toInt := Int32.lt_iff_toInt_lt.mp h
theorem Rg_le {x y : Int32} (h : x ≤ y) : x.toInt ≤ y.toInt := Int32.le_iff_toInt_le.mp h
theorem Rg_nlt {x y : Int32} (h : ¬ x < y) : y.toInt ≤ x.toInt := by rw [Int32.lt_iff_toInt_lt] at h; omega
theorem Rg_nle {x y : Int32} (h : ¬ x ≤ y) : y.toInt < x.toInt := by rw [Int32.le_iff_toInt_le] at h; omega
theorem Rg_ne {x y : Int32} (h : ¬ x = y) : x.toInt ≠ y.toInt := fun q => h (Int32.toInt_inj.mp q)
theorem Rg_no {x : Int32} {a b : Int} {P : Prop} (h : Rg x a b) (q : b < a) : P := absurd (Int.le_trans h.1 h.2) (by omega)
theorem Rg_in {x : Int32} {a b : Int} {n : Nat} (h : Rg x a b) (q : 0 ≤ a ∧ b < n) : vp_in x n := vp_in_iff.mpr ⟨Int.le_trans q.1 h.1, Int.lt_of_le_of_lt h.2 q.2⟩
theorem Rg_01 {x : Int32} (h : Rg x 0 1) : x = 0 ∨ x = 1 := by
  obtain ⟨h1, h2⟩ := h
  rcases (show x.toInt = 0 ∨ x.toInt = 1 by omega) with h | h
  · left; exact Int32.toInt_inj.mp h
  · right; exact Int32.toInt_inj.mp h
theorem Rg_eq {x : Int32} {a : Int} (h : Rg x a a) : x.toInt = a := Int.le_antisymm h.2 h.1
theorem Rg_and7 (x : Int32) : Rg (x &&& 7) 0 7 := by
  obtain ⟨j, hj, e⟩ := pk_andE x (m := 7) 3 (by decide)
  rw [e]
  unfold Rg
  rw [nI_toInt (by omega)]
  omega
theorem Rg_and1 (x : Int32) : Rg (x &&& 1) 0 1 := by
  obtain ⟨j, hj, e⟩ := pk_andE x (m := 1) 1 (by decide)
  rw [e]
  unfold Rg
  rw [nI_toInt (by omega)]
  omega
theorem Rg_and31 (x : Int32) : Rg (x &&& 31) 0 31 := by
  obtain ⟨j, hj, e⟩ := pk_andE x (m := 31) 5 (by decide)
  rw [e]
  unfold Rg
  rw [nI_toInt (by omega)]
  omega
theorem Rg_addx {x y : Int32} {a b c d a' b' X Y : Int} (ex : x.toInt = X) (ey : y.toInt = Y) (h : Rg x a b) (k : Rg y c d) (q : (-2147483648 ≤ a + c ∧ b + d ≤ 2147483647) ∧ a' ≤ a + c ∧ b + d ≤ b') : (x + y).toInt = X + Y ∧ Rg (x + y) a' b' := by rw [← ex, ← ey]; exact Rg_add h k q
theorem Rg_subx {x y : Int32} {a b c d a' b' X Y : Int} (ex : x.toInt = X) (ey : y.toInt = Y) (h : Rg x a b) (k : Rg y c d) (q : (-2147483648 ≤ a - d ∧ b - c ≤ 2147483647) ∧ a' ≤ a - d ∧ b - c ≤ b') : (x - y).toInt = X - Y ∧ Rg (x - y) a' b' := by rw [← ex, ← ey]; exact Rg_sub h k q
theorem Rg_mulx {x y : Int32} {a b c d a' b' X Y : Int} (ex : x.toInt = X) (ey : y.toInt = Y) (h : Rg x a b) (k : Rg y c d) (q : (0 ≤ a ∧ 0 ≤ c ∧ b * d ≤ 2147483647) ∧ a' ≤ a * c ∧ b * d ≤ b') : (x * y).toInt = X * Y ∧ Rg (x * y) a' b' := by rw [← ex, ← ey]; exact Rg_mul h k q
theorem Rg_divx {x y : Int32} {a b d a' b' X Y : Int} (ex : x.toInt = X) (ey : y.toInt = Y) (h : Rg x a b) (k : Rg y d d) (q : (0 ≤ a ∧ 0 < d) ∧ a' ≤ a / d ∧ b / d ≤ b') : (x / y).toInt = X / Y ∧ Rg (x / y) a' b' := by rw [← ex, ← ey]; exact Rg_div h k q
theorem Rg_remx {x y : Int32} {a b d b' X Y : Int} (ex : x.toInt = X) (ey : y.toInt = Y) (h : Rg x a b) (k : Rg y d d) (q : (0 ≤ a ∧ 0 < d) ∧ d - 1 ≤ b') : (x - x / y * y).toInt = X % Y ∧ Rg (x - x / y * y) 0 b' := by rw [← ex, ← ey]; exact Rg_rem h k q
theorem Rg_ule {x y : Int32} {a b c d b' : Int} (r : Rg x a b) (h : x.toInt ≤ y.toInt) (k : Rg y c d) (q : d ≤ b') : Rg x a b' := ⟨r.1, Int.le_trans h (Int.le_trans k.2 q)⟩
theorem Rg_ult {x y : Int32} {a b c d b' : Int} (r : Rg x a b) (h : x.toInt < y.toInt) (k : Rg y c d) (q : d ≤ b' + 1) : Rg x a b' := ⟨r.1, by have := k.2; omega⟩
theorem Rg_lle {x y : Int32} {a b c d a' : Int} (r : Rg x a b) (h : y.toInt ≤ x.toInt) (k : Rg y c d) (q : a' ≤ c) : Rg x a' b := ⟨Int.le_trans q (Int.le_trans k.1 h), r.2⟩
theorem Rg_llt {x y : Int32} {a b c d a' : Int} (r : Rg x a b) (h : y.toInt < x.toInt) (k : Rg y c d) (q : a' ≤ c + 1) : Rg x a' b := ⟨by have := k.1; omega, r.2⟩
theorem Rg_nehi {x y : Int32} {a b d b' : Int} (r : Rg x a b) (h : x.toInt ≠ y.toInt) (k : Rg y d d) (q : b = d ∧ b ≤ b' + 1) : Rg x a b' := ⟨r.1, by have := k.1; have := k.2; have := r.2; omega⟩
theorem Rg_nelo {x y : Int32} {a b d a' : Int} (r : Rg x a b) (h : x.toInt ≠ y.toInt) (k : Rg y d d) (q : a = d ∧ a' ≤ a + 1) : Rg x a' b := ⟨by have := k.1; have := k.2; have := r.1; omega, r.2⟩
theorem Rg_both {x : Int32} {a b c d a' b' : Int} (r : Rg x a b) (k : Rg x c d) (q : (a' ≤ a ∨ a' ≤ c) ∧ (b ≤ b' ∨ d ≤ b')) : Rg x a' b' := ⟨by have := r.1; have := k.1; omega, by have := r.2; have := k.2; omega⟩
theorem Rg_eqv {x y : Int32} {c d : Int} (h : x = y) (k : Rg y c d) : Rg x c d := h ▸ k
theorem Rg_ltc {x : Int32} {a b B : Int} (r : Rg x a b) (q : b < B) : x.toInt < B := Int.lt_of_le_of_lt r.2 q
theorem lp_up {x x' : Int32} {B : Int} {n : Nat} (h : (B - x.toInt).toNat < n + 1) (t : x'.toInt = x.toInt + 1) (r : x.toInt < B) : (B - x'.toInt).toNat < n := by omega
theorem lp_dn {x x' : Int32} {a b : Int} {n : Nat} (h : (x.toInt + 1).toNat < n + 1) (t : x'.toInt = x.toInt + -1) (r : Rg x a b) (q : 0 ≤ a) : (x'.toInt + 1).toNat < n := by have := r.1; omega
theorem in_ll {x y : Int32} (h : x.toInt64.toInt ≤ y.toInt64.toInt) : x.toInt ≤ y.toInt := by simpa using h
theorem in_cl {y : Int32} {c : Int64} {x : Int32} (h : c.toInt ≤ y.toInt64.toInt) (hc : x.toInt = c.toInt) : x.toInt ≤ y.toInt := by rw [hc]; simpa using h
theorem in_lc {y : Int32} {c : Int64} {x : Int32} (h : y.toInt64.toInt ≤ c.toInt) (hc : x.toInt = c.toInt) : y.toInt ≤ x.toInt := by rw [hc]; simpa using h
theorem Rg_nlef {x y : Int32} {a b c d : Int} {P : Prop} (h : x.toInt ≤ y.toInt) (r : Rg x a b) (k : Rg y c d) (q : d < a) : P := by have := r.1; have := k.2; omega
/-! the pool's order -/
def OkI (L : List Nat) (C : Nat → Nat) (I : hI) : Prop := ∀ a ∈ L, ∀ k, k < rN (C a) → rLo (C a) k ≤ (I a k).toInt ∧ (I a k).toInt ≤ rHi (C a) k ∧ (rX (C a) = true → (I a k).toInt ≤ 3 ∨ (I a k).toInt = 9)
def OkR (L : List Nat) (C : Nat → Nat) (R : hR) : Prop := ∀ a ∈ L, ∀ k, k < rN (C a) → rR (C a) k ≠ 0 → ∃ b, b ∈ L ∧ R a k = some b ∧ C b + 1 = rR (C a) k
theorem OkI.st {L : List Nat} {C : Nat → Nat} {I : hI} (h : OkI L C I) {a k r : Nat} {v : Int32} (hC : C a = r) (hv : rLo r k ≤ v.toInt ∧ v.toInt ≤ rHi r k ∧ (rX r = true → v.toInt ≤ 3 ∨ v.toInt = 9)) : OkI L C (u2 I a k v) := by
  intro b hb j hj
  by_cases hba : b = a
  · subst hba
    by_cases hjk : j = k
    · subst hjk; rw [u2_at, hC]; exact hv
    · rw [u2_nk hjk]; exact h b hb j hj
  · rw [u2_ne hba]; exact h b hb j hj
theorem OkR.st {L : List Nat} {C : Nat → Nat} {R : hR} (h : OkR L C R) {a k r v : Nat} (hC : C a = r) (hv : v ∈ L) (hr : C v + 1 = rR r k) : OkR L C (u2 R a k (some v)) := by
  intro b hb j hj hn
  by_cases hba : b = a
  · subst hba
    by_cases hjk : j = k
    · subst hjk; rw [u2_at, hC]; exact ⟨v, hv, rfl, hr⟩
    · rw [u2_nk hjk]; exact h b hb j hj hn
  · rw [u2_ne hba]; exact h b hb j hj hn
/-- what a method may change -/
def mC (r k : Nat) : Nat := if r < 32 then r * 64 + min k 63 else r * 64
def Sm (C : Nat → Nat) (ms : List Nat) (u v : hU) : Prop := ∀ a k, mC (C a) k ∉ ms → v.1 a k = u.1 a k ∧ v.2.1 a k = u.2.1 a k ∧ v.2.2 a k = u.2.2 a k
theorem Sm.rf {C : Nat → Nat} {ms : List Nat} {u : hU} : Sm C ms u u := fun _ _ _ => ⟨rfl, rfl, rfl⟩
theorem Sm.tr {C : Nat → Nat} {m1 ms : List Nat} {u v w : hU} (h1 : Sm C ms u v) (h2 : Sm C m1 v w) (hs : m1.all (fun x => ms.contains x) = true) : Sm C ms u w := by
  intro a k hn
  have hn1 : mC (C a) k ∉ m1 := fun q => hn (by simpa using List.all_eq_true.mp hs _ q)
  obtain ⟨a1, a2, a3⟩ := h1 a k hn
  obtain ⟨b1, b2, b3⟩ := h2 a k hn1
  exact ⟨b1.trans a1, b2.trans a2, b3.trans a3⟩
theorem u2_off {α : Type} {f : Nat → Nat → α} {a b k j : Nat} {v : α} (h : ¬ (b = a ∧ j = k)) : u2 f a k v b j = f b j := by
  by_cases hb : b = a
  · exact u2_nk (fun q => h ⟨hb, q⟩)
  · rw [u2_ne hb]
theorem Sm.stI {C : Nat → Nat} {ms : List Nat} {u : hU} {I : hI} {J : hJ} {R : hR} {a k r : Nat} {v : Int32} (h : Sm C ms u (I, J, R)) (hC : C a = r) (hm : mC r k ∈ ms) : Sm C ms u (u2 I a k v, J, R) := by
  intro b j hn
  obtain ⟨a1, a2, a3⟩ := h b j hn
  refine ⟨?_, a2, a3⟩
  rw [← a1]
  exact u2_off (fun q => hn (by rw [q.1, q.2, hC]; exact hm))
theorem Sm.stJ {C : Nat → Nat} {ms : List Nat} {u : hU} {I : hI} {J : hJ} {R : hR} {a k r : Nat} {v : Int64} (h : Sm C ms u (I, J, R)) (hC : C a = r) (hm : mC r k ∈ ms) : Sm C ms u (I, u2 J a k v, R) := by
  intro b j hn
  obtain ⟨a1, a2, a3⟩ := h b j hn
  refine ⟨a1, ?_, a3⟩
  rw [← a2]
  exact u2_off (fun q => hn (by rw [q.1, q.2, hC]; exact hm))
theorem Sm.stR {C : Nat → Nat} {ms : List Nat} {u : hU} {I : hI} {J : hJ} {R : hR} {a k r : Nat} {v : Option Nat} (h : Sm C ms u (I, J, R)) (hC : C a = r) (hm : mC r k ∈ ms) : Sm C ms u (I, J, u2 R a k v) := by
  intro b j hn
  obtain ⟨a1, a2, a3⟩ := h b j hn
  refine ⟨a1, a2, ?_⟩
  rw [← a3]
  exact u2_off (fun q => hn (by rw [q.1, q.2, hC]; exact hm))
theorem mC_arr {r k : Nat} {ms : List Nat} (hr : 32 ≤ r) (h : ms.contains (r * 64) = true) : mC r k ∈ ms := by
  unfold mC
  rw [if_neg (by omega)]
  simpa using h
theorem mC_obj {r k : Nat} {ms : List Nat} (hr : r < 32) (h : ms.contains (r * 64 + min k 63) = true) : mC r k ∈ ms := by
  unfold mC
  rw [if_pos hr]
  simpa using h
/-- what every method keeps -/
def Ps (L : List Nat) (C : Nat → Nat) (ms : List Nat) (u v : hU) : Prop := OkI L C v.1 ∧ OkR L C v.2.2 ∧ Sm C ms u v
section CALLS
variable {p : Program} {l : Launch} {e : Env} {Rm : Room} {s : State} {m : MethodId} {args : Array Value} {below : List Frame} {meth : Method} {c : Code} {H H0 : Heap} {locs : List Loc} {cells slots : Nat} {Q : State → Prop}
variable {cc : ByteArray} {pc : Nat} {ls : Array Slot} {rest st0 : List Value} {own : String}
variable {D : va_G} {cy : Nat → ClassId} {L : List Nat} {C : Nat → Nat} {b0 : Nat} {I : hI} {J : hJ} {R : hR}
variable {y : MethodName} {idx maxL nL n d : Nat} {bytes : ByteArray} {ty : FieldType} {As : List Value}
theorem afI {a : Array Value} {post : Int32 → hU → Prop} (hrun : va_Run p l e Rm s m args below meth c H locs cells slots 0 0 (F0 m pc ls st0) rest (va_Qi post (BcU D cy L C b0) (fun q => b0 ≤ q) a) (fun q => b0 ≤ q)) (hH : Hp D cy L C b0 s H0 I J R H locs)
    (kk : ∀ (r : Int32) (I1 : hI) (J1 : hJ) (R1 : hR) (H1 : Heap) (locs1 : List Loc), post r (I1, J1, R1) → Hp D cy L C b0 s H0 I1 J1 R1 H1 locs1 → W p l e Rm s m args below meth c H1 locs1 cells slots Q (F0 m (pc + 3) ls (.int r :: rest))) : W p l e Rm s m args below meth c H locs cells slots Q (F0 m pc ls st0) :=
  va_calli hrun hH.2.2.2.1 (fun _ _ h => h) (fun _ h => h) (fun r u t H1 locs1 ht _ hp hB _ _ hS => kk r u.1 u.2.1 u.2.2 H1 locs1 hp (hH.back ht hB hS))
theorem afJ {a : Array Value} {post : Int64 → hU → Prop} (hrun : va_Run p l e Rm s m args below meth c H locs cells slots 0 0 (F0 m pc ls st0) rest (va_Ql post (BcU D cy L C b0) (fun q => b0 ≤ q) a) (fun q => b0 ≤ q)) (hH : Hp D cy L C b0 s H0 I J R H locs)
    (kk : ∀ (r : Int64) (I1 : hI) (J1 : hJ) (R1 : hR) (H1 : Heap) (locs1 : List Loc), post r (I1, J1, R1) → Hp D cy L C b0 s H0 I1 J1 R1 H1 locs1 → W p l e Rm s m args below meth c H1 locs1 cells slots Q (F0 m (pc + 3) ls (.long r :: rest))) : W p l e Rm s m args below meth c H locs cells slots Q (F0 m pc ls st0) :=
  va_calll hrun hH.2.2.2.1 (fun _ _ h => h) (fun _ h => h) (fun r u t H1 locs1 ht _ hp hB _ _ hS => kk r u.1 u.2.1 u.2.2 H1 locs1 hp (hH.back ht hB hS))
theorem afV {a : Array Value} {post : hU → Prop} (hrun : va_Run p l e Rm s m args below meth c H locs cells slots 0 0 (F0 m pc ls st0) rest (va_Qv post (BcU D cy L C b0) (fun q => b0 ≤ q) a) (fun q => b0 ≤ q)) (hH : Hp D cy L C b0 s H0 I J R H locs)
    (kk : ∀ (I1 : hI) (J1 : hJ) (R1 : hR) (H1 : Heap) (locs1 : List Loc), post (I1, J1, R1) → Hp D cy L C b0 s H0 I1 J1 R1 H1 locs1 → W p l e Rm s m args below meth c H1 locs1 cells slots Q (F0 m (pc + 3) ls rest)) : W p l e Rm s m args below meth c H locs cells slots Q (F0 m pc ls st0) :=
  va_callv hrun hH.2.2.2.1 (fun _ _ h => h) (fun _ h => h) (fun u t H1 locs1 ht _ hp hB _ _ hS => kk u.1 u.2.1 u.2.2 H1 locs1 hp (hH.back ht hB hS))
theorem preS (hH : Hp D cy L C b0 s H0 I J R H locs) : PreS s H (va_Pc As (PcU D cy L C b0 (I, J, R))) As :=
  ⟨PcU.blind, fun U hU hW => ⟨rfl, Hp.pre (u := (I, J, R)) hH hU hW⟩⟩
theorem preV {b ci : Nat} {q : vw_C} (hH : Hp D cy L C b0 s H0 I J R H locs) (hb : b ∈ L) (hC : rT (C b) = ci) (hci : ci < 12) (hc : vwCl[ci]? = some q) : PreV s H q.1 b (va_Pc (.ref b :: As) (PcU D cy L C b0 (I, J, R))) As :=
  ⟨PcU.blind, hH.recv hb hC hci hc, fun U hU hW => ⟨rfl, Hp.pre (u := (I, J, R)) hH hU hW⟩⟩
end CALLS
