/-! one rule, and a row of rules -/
noncomputable def ap1 (to by_ more : Nat → Int32) (e : Nat) (v : Int64) : Option Int64 :=
  if e = 7 then some (if v.toInt = 0 then 0 else 1) else if e = 9 then some (v / 10) else
    if (-9223372036854775808 ≤ v.toInt * (by_ e).toInt + (more e).toInt ∧ v.toInt * (by_ e).toInt + (more e).toInt < 9223372036854775808) ∧ F_X11_isOf (to e) (v * (by_ e).toInt64 + (more e).toInt64) = 1 then some (v * (by_ e).toInt64 + (more e).toInt64) else none
noncomputable def wkv (to by_ more : Nat → Int32) : List Nat → Int64 → Nat ⊕ Int64
  | [], v => Sum.inr v
  | e :: l, v => match ap1 to by_ more e v with
    | some z => wkv to by_ more l z
    | none => Sum.inl e
theorem wkv_some {to by_ more : Nat → Int32} {e : Nat} {l : List Nat} {v z : Int64} (h : ap1 to by_ more e v = some z) : wkv to by_ more (e :: l) v = wkv to by_ more l z := by
  simp only [wkv, h]
theorem wkv_none {to by_ more : Nat → Int32} {e : Nat} {l : List Nat} {v : Int64} (h : ap1 to by_ more e v = none) : wkv to by_ more (e :: l) v = Sum.inl e := by
  simp only [wkv, h]
theorem ite01 {c : Prop} [Decidable c] : (if c then (1 : Int32) else 0) = 0 ∨ (if c then (1 : Int32) else 0) = 1 := by
  by_cases h : c
  · exact Or.inr (if_pos h)
  · exact Or.inl (if_neg h)
theorem isof01 {s : Int32} {v : Int64} (h : 0 ≤ s.toInt ∧ s.toInt ≤ 6) : F_X11_isOf s v = 0 ∨ F_X11_isOf s v = 1 := by
  simp only [F_X11_isOf, nm, inM, ite11]
  by_cases h0 : s.toInt = 0
  · rw [if_pos h0]; exact ite01
  rw [if_neg h0]
  by_cases h1 : s.toInt = 1
  · rw [if_pos h1]; exact ite01
  rw [if_neg h1]
  by_cases h2 : s.toInt = 2
  · rw [if_pos h2]; exact ite01
  rw [if_neg h2]
  by_cases h3 : s.toInt = 3
  · rw [if_pos h3]; exact Or.inr rfl
  rw [if_neg h3]
  by_cases h4 : s.toInt = 4
  · rw [if_pos h4]; exact ite01
  rw [if_neg h4]
  by_cases h5 : s.toInt = 5
  · rw [if_pos h5]; exact Or.inr rfl
  rw [if_neg h5]
  by_cases h6 : s.toInt = 6
  · rw [if_pos h6]; exact ite01
  omega
theorem isof4 {v : Int64} (h : 0 ≤ v.toInt ∧ v.toInt ≤ 1) : F_X11_isOf 4 v = 1 := by
  simp only [F_X11_isOf, nm, inM, ite11, cI4, cJ0, cJ1]
  rw [if_neg (by decide), if_neg (by decide), if_neg (by decide), if_neg (by decide), if_pos (by decide), if_pos h]
theorem isof3 {v : Int64} : F_X11_isOf 3 v = 1 := by
  simp only [F_X11_isOf, nm, inM, ite11, cI3]
  rw [if_neg (by decide), if_neg (by decide), if_neg (by decide), if_pos (by decide)]
section ONE
variable {I : hI} {J : hJ} {R : hR} {ru rt rb rm mo mt mb mp : Nat}
theorem followE (v1 : R ru 1 = some rt) (v3 : R ru 3 = some rb) (v4 : R ru 4 = some rm) (hto : ∀ e, e < 32 → 0 ≤ (I rt e).toInt ∧ (I rt e).toInt ≤ 6) (hby : ∀ e, e < 32 → -1000 ≤ (I rb e).toInt ∧ (I rb e).toInt ≤ 1000) (hmo : ∀ e, e < 32 → -1000 ≤ (I rm e).toInt ∧ (I rm e).toInt ≤ 1000) (h7 : I rt 7 = 4) (h9 : I rt 9 = 3) {xe : Int32} {e : Nat} (he : xe.toInt = e) (h32 : e < 32) (v : Int64) :
    (∃ z, ap1 (I rt) (I rb) (I rm) e v = some z ∧ F_X6_follow ru xe v I J R = (1, (I, u2 J ru 10 z, R))) ∨ (ap1 (I rt) (I rb) (I rm) e v = none ∧ ∃ J1, F_X6_follow ru xe v I J R = (0, (I, J1, R)) ∧ ∀ c k, ¬ (c = ru ∧ k = 10) → J1 c k = J c k) := by
  have ecl := clamp_toInt he
  simp only [F_X6_follow, F_X6_follow_18, F_X6_follow_87, nm, v1, v3, v4, Option.getD_some, ecl, u2_at, isofE, stays (hby e h32).1 (hby e h32).2 (hmo e h32).1 (hmo e h32).2, eqJ, cJ0]
  by_cases c7 : e = 7
  · subst c7
    left
    rw [if_pos (show xe = 7 by rw [ieq, he]; decide)]
    unfold ap1
    rw [if_pos rfl]
    by_cases z0 : v.toInt = 0
    · rw [if_pos z0, if_pos z0]
      exact ⟨0, rfl, by rw [h7, isof4 (by rw [cJ0]; decide)]⟩
    · rw [if_neg z0, if_neg z0]
      exact ⟨1, rfl, by rw [h7, isof4 (by rw [cJ1]; decide)]⟩
  · rw [if_neg (show ¬ xe = 7 by rw [ieq, he, cI7]; omega)]
    by_cases c9 : e = 9
    · subst c9
      left
      rw [if_pos (show xe = 9 by rw [ieq, he]; decide)]
      unfold ap1
      rw [if_neg c7, if_pos rfl]
      exact ⟨_, rfl, by rw [h9, isof3]⟩
    · rw [if_neg (show ¬ xe = 9 by rw [ieq, he, cI9]; omega)]
      unfold ap1
      rw [if_neg c7, if_neg c9]
      by_cases g : -9223372036854775808 ≤ v.toInt * (I rb e).toInt + (I rm e).toInt ∧ v.toInt * (I rb e).toInt + (I rm e).toInt < 9223372036854775808
      · simp only [if_pos g]
        rw [if_neg (show ¬ (1 : Int32) = 0 by decide)]
        rcases isof01 (s := I rt e) (v := v * (I rb e).toInt64 + (I rm e).toInt64) (hto e h32) with q | q
        · right
          rw [if_neg (fun t => absurd (q.symm.trans t.2) (by decide)), q]
          exact ⟨rfl, u2 J ru 10 (v * (I rb e).toInt64 + (I rm e).toInt64), rfl, fun c k h => u2_off h⟩
        · left
          rw [if_pos ⟨g, q⟩, q]
          exact ⟨_, rfl, rfl⟩
      · right
        simp only [if_neg g]
        rw [if_pos trivial, if_neg (fun t => g t.1)]
        exact ⟨rfl, J, rfl, fun _ _ _ => rfl⟩
theorem apply59 (v3 : R mo 3 = some mt) (v6 : R mo 6 = some mp) (hto : ∀ e, e < 32 → 0 ≤ (I mt e).toInt ∧ (I mt e).toInt ≤ 6) (hmo : ∀ e, e < 32 → -1000 ≤ (I mp e).toInt ∧ (I mp e).toInt ≤ 1000) {xe : Int32} {e : Nat} (he : xe.toInt = e) (h32 : e < 32) (v : Int64) {f : Int64} {F : Int} (hf : f.toInt = F) (f1 : -1000 ≤ F) (f2 : F ≤ 1000) :
    F_X11_apply_59 mo xe v I J R f = (if (-9223372036854775808 ≤ v.toInt * F + (I mp e).toInt ∧ v.toInt * F + (I mp e).toInt < 9223372036854775808) ∧ F_X11_isOf (I mt e) (v * f + (I mp e).toInt64) = 1 then (1 : Int32) else 0, (I, u2 J mo 31 (v * f + (I mp e).toInt64), R)) := by
  have ecl := clamp_toInt he
  have bm := hmo e h32
  have bv := jrg v
  have bP := mulC (a := v.toInt) (b := F) (A := 9223372036854775808) (B := 1000) bv.1 (by omega) f1 f2
  have hi := mulHi v f
  rw [hf] at hi
  obtain ⟨k, lo, lo1, lo2⟩ := jmul v f
  rw [hf] at lo
  simp only [F_X11_apply_59, F_X11_apply_118, F_X11_apply_156, F_X11_apply_157, nm, v3, v6, Option.getD_some, ecl, cmpU, eqJ, jsr63]
  have tm : ((I mp e).toInt64).toInt = (I mp e).toInt := Int32.toInt_toInt64 _
  generalize (I mp e).toInt64 = ml at tm ⊢
  generalize F_J9_multiplyHigh_f86c9 v f = w17 at hi ⊢
  generalize v * f = w18 at lo lo1 lo2 ⊢
  obtain ⟨k2, l19, l1, l2⟩ := jadd w18 ml
  rw [tm] at l19
  generalize w18 + ml = w19 at l19 l1 l2 ⊢
  have f20 := jsr63 ml
  rw [tm] at f20
  generalize ml >>> (Int32.toInt64 (63 : Int32) &&& 63) = w20 at f20 ⊢
  generalize v.toInt * F = P at *
  generalize (I mp e).toInt = m at *
  have f21 := jaddx hi f20 (by omega) (by omega)
  generalize w17 + w20 = w21 at f21 ⊢
  have g0 := jaddx (b := 0) f21 cJ0 (by omega) (by omega)
  have g1 := jaddx (b := 1) f21 cJ1 (by omega) (by omega)
  generalize w21 + 0 = w220 at g0 ⊢
  generalize w21 + 1 = w221 at g1 ⊢
  rcases isof01 (s := I mt e) (v := w19) (hto e h32) with q | q
  · rw [q]
    rw [if_neg (show ¬ ((-9223372036854775808 ≤ P + m ∧ P + m < 9223372036854775808) ∧ (0 : Int32) = 1) from fun t => absurd t.2 (by decide))]
    simp only [if_pos (show (0 : Int32) = 0 from rfl)]
    by_cases hu : uv w18.toInt ≤ uv w19.toInt
    · rw [if_pos hu]
      by_cases hs : w220.toInt = w19.toInt / 9223372036854775808
      · rw [if_pos hs, if_pos trivial]
      · rw [if_neg hs]
    · rw [if_neg hu]
      by_cases hs : w221.toInt = w19.toInt / 9223372036854775808
      · rw [if_pos hs, if_pos trivial]
      · rw [if_neg hs]
  · rw [q]
    simp only [if_neg (show ¬ (1 : Int32) = 0 by decide)]
    by_cases hu : uv w18.toInt ≤ uv w19.toInt
    · rw [if_pos hu]
      by_cases hs : w220.toInt = w19.toInt / 9223372036854775808
      · rw [if_pos hs, if_pos ⟨by unfold uv at hu; split at hu <;> split at hu <;> omega, trivial⟩]
      · rw [if_neg hs, if_neg (fun t => hs (by have := t.1; unfold uv at hu; split at hu <;> split at hu <;> omega))]
    · rw [if_neg hu]
      by_cases hs : w221.toInt = w19.toInt / 9223372036854775808
      · rw [if_pos hs, if_pos ⟨by unfold uv at hu; split at hu <;> split at hu <;> omega, trivial⟩]
      · rw [if_neg hs, if_neg (fun t => hs (by have := t.1; unfold uv at hu; split at hu <;> split at hu <;> omega))]
theorem applyE (v3 : R mo 3 = some mt) (v5 : R mo 5 = some mb) (v6 : R mo 6 = some mp) (hto : ∀ e, e < 32 → 0 ≤ (I mt e).toInt ∧ (I mt e).toInt ≤ 6) (hby : ∀ e, e < 32 → -1000 ≤ (I mb e).toInt ∧ (I mb e).toInt ≤ 1000) (hmo : ∀ e, e < 32 → -1000 ≤ (I mp e).toInt ∧ (I mp e).toInt ≤ 1000) {xe : Int32} {e : Nat} (he : xe.toInt = e) (h32 : e < 32) (v : Int64) :
    (∃ z, ap1 (I mt) (fun e => if e = 8 then 10 else I mb e) (I mp) e v = some z ∧ F_X11_apply mo xe v I J R = (1, (I, u2 J mo 31 z, R))) ∨ (ap1 (I mt) (fun e => if e = 8 then 10 else I mb e) (I mp) e v = none ∧ ∃ J1, F_X11_apply mo xe v I J R = (0, (I, J1, R)) ∧ ∀ c k, ¬ (c = mo ∧ k = 31) → J1 c k = J c k) := by
  have ecl := clamp_toInt he
  have key : ∀ y : Int32, -1000 ≤ y.toInt → y.toInt ≤ 1000 → (if e = 8 then 10 else I mb e) = y → e ≠ 7 → e ≠ 9 → F_X11_apply mo xe v I J R = F_X11_apply_59 mo xe v I J R y.toInt64 → (∃ z, ap1 (I mt) (fun e => if e = 8 then 10 else I mb e) (I mp) e v = some z ∧ F_X11_apply mo xe v I J R = (1, (I, u2 J mo 31 z, R))) ∨ (ap1 (I mt) (fun e => if e = 8 then 10 else I mb e) (I mp) e v = none ∧ ∃ J1, F_X11_apply mo xe v I J R = (0, (I, J1, R)) ∧ ∀ c k, ¬ (c = mo ∧ k = 31) → J1 c k = J c k) := fun y y1 y2 hy c7 c9 ha => by
    rw [ha, apply59 (J := J) v3 v6 hto hmo he h32 v (f := y.toInt64) (F := y.toInt) (Int32.toInt_toInt64 y) y1 y2]
    unfold ap1
    simp only [hy]
    rw [if_neg c7, if_neg c9]
    by_cases g : (-9223372036854775808 ≤ v.toInt * y.toInt + (I mp e).toInt ∧ v.toInt * y.toInt + (I mp e).toInt < 9223372036854775808) ∧ F_X11_isOf (I mt e) (v * y.toInt64 + (I mp e).toInt64) = 1
    · left
      rw [if_pos g, if_pos g]
      exact ⟨_, rfl, rfl⟩
    · right
      rw [if_neg g, if_neg g]
      exact ⟨rfl, _, rfl, fun c k h => u2_off h⟩
  by_cases c7 : e = 7
  · subst c7
    left
    have hx : xe = 7 := by rw [ieq, he]; decide
    unfold ap1
    rw [if_pos rfl]
    simp only [F_X11_apply, F_X11_apply_18, nm, eqJ, cJ0]
    rw [if_pos hx]
    by_cases z0 : v.toInt = 0
    · rw [if_pos z0, if_pos z0]
      exact ⟨0, rfl, rfl⟩
    · rw [if_neg z0, if_neg z0]
      exact ⟨1, rfl, rfl⟩
  · have x7 : ¬ xe = 7 := by rw [ieq, he, cI7]; omega
    by_cases c9 : e = 9
    · subst c9
      left
      unfold ap1
      rw [if_neg c7, if_pos rfl]
      simp only [F_X11_apply, nm]
      rw [if_neg x7, if_pos (show xe = 9 by rw [ieq, he]; decide)]
      exact ⟨_, rfl, rfl⟩
    · have x9 : ¬ xe = 9 := by rw [ieq, he, cI9]; omega
      by_cases c8 : e = 8
      · refine key 10 (by decide) (by decide) (if_pos c8) c7 c9 ?_
        simp only [F_X11_apply, nm]
        rw [if_neg x7, if_neg x9, if_pos (show xe = 8 by rw [ieq, he, c8]; decide), show (10 : Int32).toInt64 = (10 : Int64) by decide]
      · refine key (I mb e) (hby e h32).1 (hby e h32).2 (if_neg c8) c7 c9 ?_
        simp only [F_X11_apply, nm, v5, Option.getD_some, ecl]
        rw [if_neg x7, if_neg x9, if_neg (show ¬ xe = 8 by rw [ieq, he, cI8]; omega)]
end ONE
theorem Wk.mem {src dst : Nat → Nat} {pr : Nat → Prop} {b : Nat} : ∀ (l : List Nat) (a : Nat), Wk src dst pr a l b → ∀ e ∈ l, pr e := by
  intro l
  induction l with
  | nil => intro a _ e he; cases he
  | cons x l ih =>
    intro a hw e he
    obtain ⟨h1, -, h3⟩ := hw
    cases he with
    | head => exact h1
    | tail _ h => exact ih _ h3 e h
theorem gry_mem {I : hI} {ru rf rt rc rth w fi a b : Nat} (hr : Rl I ru rf rt rc) (hT : Tb I ru rf rt rc rth w fi) (ha : a < 7) (hb : b < 7) (hd : (I w (a * 7 + b)).toInt < 268435456) : ∀ e ∈ gry (sr I rt) (fun u => (I fi (u * 7 + b)).toNatClampNeg) b 7 a, e < 32 := by
  have hE := EokR (rth := rth) hr
  obtain ⟨q, -, -⟩ := gry_ok hE (by decide) (hT.D hr hb) (hT.F hb) 7 a ha hd (rk_le 7)
  exact fun e he => (hE e (Wk.mem _ _ q e he)).2.2.2
section CARRY
variable {I : hI} {J : hJ} {R : hR} {ru rf rt rc rb rm rth w fi : Nat}
theorem carry_l (v1 : R ru 1 = some rt) (v3 : R ru 3 = some rb) (v4 : R ru 4 = some rm) (v9 : R ru 9 = some fi) (n1 : rt ≠ ru) (n3 : rb ≠ ru) (n4 : rm ≠ ru) (n9 : fi ≠ ru) (hr : Rl I ru rf rt rc) (hT : Tb I ru rf rt rc rth w fi) (hto : ∀ e, e < 32 → 0 ≤ (I rt e).toInt ∧ (I rt e).toInt ≤ 6) (hby : ∀ e, e < 32 → -1000 ≤ (I rb e).toInt ∧ (I rb e).toInt ≤ 1000) (hmo : ∀ e, e < 32 → -1000 ≤ (I rm e).toInt ∧ (I rm e).toInt ≤ 1000) (h7 : I rt 7 = 4) (h9 : I rt 9 = 3) {x1 x2 : Int32} {x3 : Int64} {b : Nat} (h2 : x2.toInt = b) (hb : b < 7) :
    ∀ (f n v i : Nat) (xv xi : Int32) (I0 : hI) (J0 : hJ), (∀ c, c ≠ ru → I0 c = I c) → xv.toInt = v → xi.toInt = i → v < 7 → (I w (v * 7 + b)).toInt < 268435456 → rk 7 (fun u => (I w (u * 7 + b)).toInt) (I w (v * 7 + b)).toInt ≤ n → i + rk 7 (fun u => (I w (u * 7 + b)).toInt) (I w (v * 7 + b)).toInt ≤ 6 → 7 < f + i →
      ∃ I1 J1, (∀ c k, ¬ (c = ru ∧ k = 11) → I1 c k = I0 c k) ∧ (∀ c k, ¬ (c = ru ∧ k = 10) → J1 c k = J0 c k) ∧
        ((∃ z, wkv (I rt) (I rb) (I rm) (gry (sr I rt) (fun u => (I fi (u * 7 + b)).toNatClampNeg) b n v) (J0 ru 10) = Sum.inr z ∧ F_X6_carry_11 ru x1 x2 x3 f I0 J0 R xv xi = (1, (I1, J1, R)) ∧ J1 ru 10 = z) ∨
         (∃ e : Nat, wkv (I rt) (I rb) (I rm) (gry (sr I rt) (fun u => (I fi (u * 7 + b)).toNatClampNeg) b n v) (J0 ru 10) = Sum.inl e ∧ F_X6_carry_11 ru x1 x2 x3 f I0 J0 R xv xi = (0, (I1, J1, R)) ∧ (I1 ru 11).toInt = e)) := by
  intro f
  induction f with
  | zero => intro n v i xv xi I0 J0 _ _ _ _ _ _ h h2; omega
  | succ f ih =>
    intro n v i xv xi I0 J0 hI0 hv hi hv7 hd hn hi6 hf
    rw [F_X6_carry_11_s]
    simp only [B_X6_carry_11, F_X6_carry_80, F_X6_carry_63, nm, nmU, v1, v9, Option.getD_some]
    rw [if_neg (by rw [ile, hi, cI7]; omega)]
    by_cases e : v = b
    · rw [if_pos (by rw [ieq, hv, h2, e])]
      have hg : gry (sr I rt) (fun u => (I fi (u * 7 + b)).toNatClampNeg) b n v = [] := by
        cases n with
        | zero => rfl
        | succ n => simp only [gry, if_pos e]
      rw [hg]
      exact ⟨I0, J0, fun _ _ _ => rfl, fun _ _ _ => rfl, Or.inl ⟨_, rfl, rfl, rfl⟩⟩
    · rw [if_neg (by rw [ieq, hv, h2]; omega)]
      have c7 : Int32.toInt 7 = ((7 : Nat) : Int) := by decide
      have i1 : (xv * 7 + x2).toNatClampNeg = v * 7 + b := idx2 hv h2 c7 (by omega)
      rw [i1, hI0 fi n9]
      obtain ⟨e0, q1, q2, q3, q4, q5⟩ := hT.2 v b hv7 hb e hd
      have hE := EokR (rth := rth) hr e0 q2
      have hlt : (I w (sr I rt e0 * 7 + b)).toInt < (I w (v * 7 + b)).toInt := by have := hE.2.2.1; omega
      have hrk := rk_lt (d := fun u => (I w (u * 7 + b)).toInt) (x := (I w (sr I rt e0 * 7 + b)).toInt) (y := (I w (v * 7 + b)).toInt) (u := sr I rt e0) (Int.le_refl _) hlt 7 hE.2.1
      have efi : (I fi (v * 7 + b)).toNatClampNeg = e0 := clamp_toInt q1
      obtain ⟨n1', rfl⟩ : ∃ n1', n = n1' + 1 := ⟨n - 1, by omega⟩
      have eg : gry (sr I rt) (fun u => (I fi (u * 7 + b)).toNatClampNeg) b (n1' + 1) v = e0 :: gry (sr I rt) (fun u => (I fi (u * 7 + b)).toNatClampNeg) b n1' (sr I rt e0) := by
        simp only [gry, if_neg e, efi]
      rw [eg, if_neg (show ¬ I fi (v * 7 + b) = -1 by rw [ieq, q1, cIm1]; omega), efi]
      have a1 : ∀ c, c ≠ ru → u2 I0 ru 11 (I fi (v * 7 + b)) c = I c := fun c h => by rw [u2_ne h, hI0 c h]
      have fo := followE (I := u2 I0 ru 11 (I fi (v * 7 + b))) (J := J0) v1 v3 v4 (by rw [a1 rt n1]; exact hto) (by rw [a1 rb n3]; exact hby) (by rw [a1 rm n4]; exact hmo) (by rw [a1 rt n1]; exact h7) (by rw [a1 rt n1]; exact h9) q1 hE.2.2.2 (J0 ru 10)
      rw [a1 rt n1, a1 rb n3, a1 rm n4] at fo
      rw [a1 rt n1]
      rcases fo with ⟨z, z1, z2⟩ | ⟨z1, J1, z2, z3⟩
      · rw [z2, wkv_some z1]
        dsimp only
        rw [if_neg (show ¬ (1 : Int32) = 0 by decide)]
        have et : (I rt e0).toInt = (sr I rt e0 : Nat) := (nat_of (hto e0 hE.2.2.2).1).symm
        obtain ⟨I1, J1, g1, g2, g3⟩ := ih n1' (sr I rt e0) (i + 1) (I rt e0) (xi + 1) (u2 I0 ru 11 (I fi (v * 7 + b))) (u2 J0 ru 10 z) a1 et (by rw [add1 (b := 7) (by omega) (by omega), hi]; omega) hE.2.1 (by omega) (by omega) (by omega) (by omega)
        rw [u2_at] at g3
        exact ⟨I1, J1, fun c k h => (g1 c k h).trans (u2_off h), fun c k h => (g2 c k h).trans (u2_off h), g3⟩
      · rw [z2, wkv_none z1]
        dsimp only
        rw [if_pos (show (0 : Int32) = 0 from rfl)]
        exact ⟨u2 I0 ru 11 (I fi (v * 7 + b)), J1, fun c k h => u2_off h, z3, Or.inr ⟨e0, rfl, rfl, by rw [u2_at]; exact q1⟩⟩
theorem carryE (v1 : R ru 1 = some rt) (v3 : R ru 3 = some rb) (v4 : R ru 4 = some rm) (v9 : R ru 9 = some fi) (n1 : rt ≠ ru) (n3 : rb ≠ ru) (n4 : rm ≠ ru) (n9 : fi ≠ ru) (hr : Rl I ru rf rt rc) (hT : Tb I ru rf rt rc rth w fi) (hto : ∀ e, e < 32 → 0 ≤ (I rt e).toInt ∧ (I rt e).toInt ≤ 6) (hby : ∀ e, e < 32 → -1000 ≤ (I rb e).toInt ∧ (I rb e).toInt ≤ 1000) (hmo : ∀ e, e < 32 → -1000 ≤ (I rm e).toInt ∧ (I rm e).toInt ≤ 1000) (h7 : I rt 7 = 4) (h9 : I rt 9 = 3) {x1 x2 : Int32} {x3 : Int64} {a b : Nat} (h1 : x1.toInt = a) (h2 : x2.toInt = b) (ha : a < 7) (hb : b < 7) (hd : (I w (a * 7 + b)).toInt < 268435456) :
    ∃ I1 J1, (∀ c k, ¬ (c = ru ∧ k = 11) → I1 c k = I c k) ∧ (∀ c k, ¬ (c = ru ∧ k = 10) → J1 c k = J c k) ∧
      ((∃ z, wkv (I rt) (I rb) (I rm) (gry (sr I rt) (fun u => (I fi (u * 7 + b)).toNatClampNeg) b 7 a) x3 = Sum.inr z ∧ F_X6_carry ru x1 x2 x3 I J R = (1, (I1, J1, R)) ∧ J1 ru 10 = z) ∨
       (∃ e : Nat, wkv (I rt) (I rb) (I rm) (gry (sr I rt) (fun u => (I fi (u * 7 + b)).toNatClampNeg) b 7 a) x3 = Sum.inl e ∧ F_X6_carry ru x1 x2 x3 I J R = (0, (I1, J1, R)) ∧ (I1 ru 11).toInt = e)) := by
  have hrk : rk 7 (fun u => (I w (u * 7 + b)).toInt) (I w (a * 7 + b)).toInt < 7 := rk_lt_n (u := a) (Int.le_refl _) 7 ha
  obtain ⟨I1, J1, g1, g2, g3⟩ := carry_l (x1 := x1) (x3 := x3) v1 v3 v4 v9 n1 n3 n4 n9 hr hT hto hby hmo h7 h9 h2 hb 8 7 a 0 x1 0 I (u2 J ru 10 x3) (fun _ _ => rfl) h1 (by decide) ha hd (by omega) (by omega) (by omega)
  rw [u2_at] at g3
  exact ⟨I1, J1, g1, fun c k h => (g2 c k h).trans (u2_off h), g3⟩
end CARRY
section TURNIT
variable {I : hI} {J : hJ} {R : hR} {mo mt mb mp tm tr : Nat}
theorem turnIt_l (v3 : R mo 3 = some mt) (v5 : R mo 5 = some mb) (v6 : R mo 6 = some mp) (v33 : R mo 33 = some tm) (v34 : R mo 34 = some tr) (hto : ∀ e, e < 32 → 0 ≤ (I mt e).toInt ∧ (I mt e).toInt ≤ 6) (hby : ∀ e, e < 32 → -1000 ≤ (I mb e).toInt ∧ (I mb e).toInt ≤ 1000) (hmo : ∀ e, e < 32 → -1000 ≤ (I mp e).toInt ∧ (I mp e).toInt ≤ 1000) {x1 x2 x4 y1 y2 : Int32} {x3 : Int64} {p n : Nat} (hy : y2.toInt = p) (hp : p < 49) (hn : (I tm p).toInt = n) (hn6 : n ≤ 6) (hg : ∀ k, k < n → 0 ≤ (I tr (6 * p + k)).toInt ∧ (I tr (6 * p + k)).toNatClampNeg < 32) :
    ∀ (f m i : Nat) (xi : Int32) (J0 : hJ), xi.toInt = i → m + i = n → n < f + i →
      ∃ J1, (∀ c k, ¬ (c = mo ∧ (k = 31 ∨ k = 37)) → J1 c k = J0 c k) ∧
        ((∃ z, wkv (I mt) (fun e => if e = 8 then 10 else I mb e) (I mp) (sfx (fun k => (I tr (6 * p + k)).toNatClampNeg) i m) (J0 mo 37) = Sum.inr z ∧ F_X11_turnIt_16 mo x1 x2 x3 x4 y2 y1 f I J0 R xi = (1, (I, J1, R)) ∧ J1 mo 37 = z) ∨
         (∃ e : Nat, wkv (I mt) (fun e => if e = 8 then 10 else I mb e) (I mp) (sfx (fun k => (I tr (6 * p + k)).toNatClampNeg) i m) (J0 mo 37) = Sum.inl e ∧ ∃ xe : Int32, xe.toInt = e ∧ F_X11_turnIt_16 mo x1 x2 x3 x4 y2 y1 f I J0 R xi = (0, (u2 (u2 (u2 I mo 26 1) mo 27 x4) mo 28 xe, J1, R)))) := by
  intro f
  induction f with
  | zero => intro m i xi J0 _ h1 h2; omega
  | succ f ih =>
    intro m i xi J0 hi hm hf
    rw [F_X11_turnIt_16_s]
    simp only [B_X11_turnIt_16, F_X11_fail, nm, nmU, nmW, v33, v34, Option.getD_some, clamp_toInt hy]
    cases m with
    | zero =>
      rw [if_pos (by rw [ile, hn, hi]; omega)]
      exact ⟨J0, fun _ _ _ => rfl, Or.inl ⟨_, rfl, rfl, rfl⟩⟩
    | succ m =>
      rw [if_neg (by rw [ile, hn, hi]; omega)]
      have i1 : (6 * y2 + xi).toNatClampNeg = 6 * p + i := clamp_toInt (by rw [iadd (imul (x := 6) cI6 hy (by omega) (by omega)) hi (by omega) (by omega)]; omega)
      rw [i1]
      obtain ⟨e0, he0⟩ : ∃ e0, e0 = (I tr (6 * p + i)).toNatClampNeg := ⟨_, rfl⟩
      have hgi := hg i (by omega)
      have hxe : (I tr (6 * p + i)).toInt = e0 := by rw [he0]; exact (nat_of hgi.1).symm
      have fo := applyE (I := I) (J := J0) v3 v5 v6 hto hby hmo hxe (by rw [he0]; exact hgi.2) (J0 mo 37)
      have es : sfx (fun k => (I tr (6 * p + k)).toNatClampNeg) i (m + 1) = e0 :: sfx (fun k => (I tr (6 * p + k)).toNatClampNeg) (i + 1) m := by rw [he0]; rfl
      rw [es]
      rcases fo with ⟨z, z1, z2⟩ | ⟨z1, J1, z2, z3⟩
      · rw [z2, wkv_some z1]
        dsimp only
        rw [if_neg (show ¬ (1 : Int32) = 0 by decide), u2_at]
        obtain ⟨J1, g1, g2⟩ := ih m (i + 1) (xi + 1) (u2 (u2 J0 mo 31 z) mo 37 z) (by rw [add1 (b := 7) (by omega) (by omega), hi]; omega) (by omega) (by omega)
        rw [u2_at] at g2
        refine ⟨J1, fun c k h => ?_, g2⟩
        rw [g1 c k h, u2_off (fun q => h ⟨q.1, Or.inr q.2⟩), u2_off (fun q => h ⟨q.1, Or.inl q.2⟩)]
      · rw [z2, wkv_none z1]
        dsimp only
        rw [if_pos (show (0 : Int32) = 0 from rfl)]
        exact ⟨J1, fun c k h => z3 c k (fun q => h ⟨q.1, Or.inl q.2⟩), Or.inr ⟨e0, rfl, I tr (6 * p + i), hxe, rfl⟩⟩
theorem turnItE (v3 : R mo 3 = some mt) (v5 : R mo 5 = some mb) (v6 : R mo 6 = some mp) (v33 : R mo 33 = some tm) (v34 : R mo 34 = some tr) (hto : ∀ e, e < 32 → 0 ≤ (I mt e).toInt ∧ (I mt e).toInt ≤ 6) (hby : ∀ e, e < 32 → -1000 ≤ (I mb e).toInt ∧ (I mb e).toInt ≤ 1000) (hmo : ∀ e, e < 32 → -1000 ≤ (I mp e).toInt ∧ (I mp e).toInt ≤ 1000) {x1 x2 x4 : Int32} {x3 : Int64} {a b n : Nat} (h1 : x1.toInt = a) (h2 : x2.toInt = b) (ha : a < 7) (hb : b < 7) (hn : (I tm (7 * a + b)).toInt = n) (hn6 : n ≤ 6) (hg : ∀ k, k < n → 0 ≤ (I tr (6 * (7 * a + b) + k)).toInt ∧ (I tr (6 * (7 * a + b) + k)).toNatClampNeg < 32) :
    ∃ J1, (∀ c k, ¬ (c = mo ∧ (k = 31 ∨ k = 37)) → J1 c k = J c k) ∧
      ((∃ z, wkv (I mt) (fun e => if e = 8 then 10 else I mb e) (I mp) (sfx (fun k => (I tr (6 * (7 * a + b) + k)).toNatClampNeg) 0 n) x3 = Sum.inr z ∧ F_X11_turnIt mo x1 x2 x3 x4 I J R = (1, (I, J1, R)) ∧ J1 mo 37 = z) ∨
       (∃ e : Nat, wkv (I mt) (fun e => if e = 8 then 10 else I mb e) (I mp) (sfx (fun k => (I tr (6 * (7 * a + b) + k)).toNatClampNeg) 0 n) x3 = Sum.inl e ∧ ∃ xe : Int32, xe.toInt = e ∧ F_X11_turnIt mo x1 x2 x3 x4 I J R = (0, (u2 (u2 (u2 I mo 26 1) mo 27 x4) mo 28 xe, J1, R)))) := by
  have hy : (7 * x1 + x2).toInt = ((7 * a + b : Nat) : Int) := by rw [iadd (imul (x := 7) cI7 h1 (by omega) (by omega)) h2 (by omega) (by omega)]; omega
  obtain ⟨J1, g1, g2⟩ := turnIt_l (x1 := x1) (x2 := x2) (x4 := x4) (y1 := 7 * x1) (x3 := x3) v3 v5 v6 v33 v34 hto hby hmo hy (by omega) hn hn6 hg 7 n 0 0 (u2 J mo 37 x3) (by decide) (by omega) (by omega)
  rw [u2_at] at g2
  refine ⟨J1, fun c k h => (g1 c k h).trans (u2_off (fun q => h ⟨q.1, Or.inr q.2⟩)), g2⟩
end TURNIT
