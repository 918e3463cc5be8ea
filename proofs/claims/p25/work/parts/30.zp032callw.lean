/-! the work of a member, in the class and in the model -/
section WORKC2
variable {I : hI} {R : hR} {kc c a8 fac tf la ch : Nat}
theorem giveE {v : Int64} {J : hJ} : F_X1_giveIfOf kc c v I J R = (F_X11_isOf (I c 1) v, (I, u2 J kc 10 v, R)) := by
  simp only [F_X1_giveIfOf, nm, isofE]
theorem wrF_l (v8 : R kc 8 = some a8) (ne : a8 ≠ kc) (ntf : tf ≠ kc) (hr : 0 ≤ (I c 1).toInt ∧ (I c 1).toInt ≤ 6) {xa : Int32} {n : Nat} (hn : (I c 2).toInt = n) (hn4 : n ≤ 4) {J0 : hJ} :
    ∀ (r f i : Nat) (x : Int32) (J : hJ), x.toInt = i → i + r = n → r < f → (∀ z k, ¬ (z = kc ∧ k = 10) → J z k = J0 z k) →
      ∃ J1, (∀ z k, ¬ (z = kc ∧ k = 10) → ¬ (z = tf ∧ k = xa.toNatClampNeg) → J1 z k = J0 z k) ∧ ((∃ s, sumW (tmW (J0 a8)) r i (J kc 10) = some s ∧ ¬ F_X11_isOf (I c 1) (J0 tf xa.toNatClampNeg) = 0 ∧ F_X1_writeField_8 kc c tf xa f I J R x = (1, (I, J1, R)) ∧ J1 kc 10 = J0 tf xa.toNatClampNeg ∧ J1 tf xa.toNatClampNeg = s) ∨ ((sumW (tmW (J0 a8)) r i (J kc 10) = none ∨ F_X11_isOf (I c 1) (J0 tf xa.toNatClampNeg) = 0) ∧ F_X1_writeField_8 kc c tf xa f I J R x = (0, (I, J1, R)) ∧ J1 tf xa.toNatClampNeg = J0 tf xa.toNatClampNeg)) := by
  intro r
  induction r with
  | zero =>
    intro f i x J hx hr' hf hJ
    obtain ⟨f', rfl⟩ : ∃ f', f = f' + 1 := ⟨f - 1, by omega⟩
    rw [F_X1_writeField_8_s]
    simp only [B_X1_writeField_8, nm, nmU, giveE]
    rw [if_pos (by rw [ile, hn, hx]; omega)]
    have et : J tf xa.toNatClampNeg = J0 tf xa.toNatClampNeg := hJ tf _ (fun q => ntf q.1)
    rw [et]
    by_cases h0 : F_X11_isOf (I c 1) (J0 tf xa.toNatClampNeg) = 0
    · rw [if_pos h0]
      exact ⟨_, fun z k h1 _ => by rw [u2_off h1]; exact hJ z k h1, Or.inr ⟨Or.inr h0, rfl, by rw [u2_ne ntf]; exact et⟩⟩
    · rw [if_neg h0]
      exact ⟨_, fun z k h1 h2 => by rw [u2_off h2, u2_off h1]; exact hJ z k h1, Or.inl ⟨_, rfl, h0, rfl, by rw [u2_ne (fun q => ntf q.symm), u2_at], by rw [u2_at]⟩⟩
  | succ r ih =>
    intro f i x J hx hr' hf hJ
    obtain ⟨f', rfl⟩ : ∃ f', f = f' + 1 := ⟨f - 1, by omega⟩
    rw [F_X1_writeField_8_s]
    simp only [B_X1_writeField_8, nm, nmU, v8, Option.getD_some, clamp_toInt hx]
    rw [if_neg (by rw [ile, hn, hx]; omega)]
    have ea : J a8 i = J0 a8 i := hJ a8 i (fun q => ne q.1)
    rw [ea, addToE]
    dsimp only
    simp only [sumW, show tmW (J0 a8) i = some (J0 a8 i) from rfl]
    have hx1 : (x + 1).toInt = ((i + 1 : Nat) : Int) := by rw [add1 (b := 4) (by omega) (by omega), hx]; omega
    by_cases hs : F_X10_sumStaysIn64 (J kc 10) (J0 a8 i) = 0
    · have es : adds (J kc 10) (J0 a8 i) = none := by unfold adds; rw [if_pos hs]
      rw [es, if_pos hs, if_pos rfl]
      exact ⟨_, fun z k h _ => by rw [u2_off h]; exact hJ z k h, Or.inr ⟨Or.inl rfl, rfl, by rw [u2_ne ntf]; exact hJ tf _ (fun q => ntf q.1)⟩⟩
    · have es : adds (J kc 10) (J0 a8 i) = some (J kc 10 + J0 a8 i) := by unfold adds; rw [if_neg hs]
      rw [es, if_neg hs, if_neg hs]
      dsimp only
      have := ih f' (i + 1) (x + 1) (u2 J kc 10 (J kc 10 + J0 a8 i)) hx1 (by omega) (by omega) (fun z k h => by rw [u2_off h]; exact hJ z k h)
      rw [u2_at] at this
      exact this
theorem doWorkC (v5 : R kc 5 = some ch) (v8 : R kc 8 = some a8) (v3 : R kc 3 = some la) {l n : Nat} (hl : (I kc 7).toInt = l) (vc : R ch l = some c) (v7 : R c 7 = some fac) (ne : a8 ≠ kc) (ntf : tf ≠ kc) (nat : a8 ≠ tf) (hn : (I c 2).toInt = n) (hn4 : n ≤ 4) (hf : ∀ i, i < 4 → -1000 ≤ (I fac i).toInt ∧ (I fac i).toInt ≤ 1000) (hr : 0 ≤ (I c 1).toInt ∧ (I c 1).toInt ≤ 6) (hk : 0 ≤ (I c 4).toInt ∧ (I c 4).toInt ≤ 2) {xb : Int32} {J : hJ} :
    ∃ J1, (∀ z k, ¬ (z = kc ∧ k = 10) → ¬ (z = tf ∧ k = (xb + I c 5).toNatClampNeg) → J1 z k = J z k) ∧ ((∃ z nf, wkA (I c 4) (I c 5) (I c 6) (I c 1) n (I fac) (J a8) (J tf (xb + I c 5).toNatClampNeg) = some (z, nf) ∧ F_X1_doWork kc tf xb I J R = (1, (I, J1, R)) ∧ J1 kc 10 = z ∧ J1 tf (xb + I c 5).toNatClampNeg = nf.getD (J tf (xb + I c 5).toNatClampNeg)) ∨ (wkA (I c 4) (I c 5) (I c 6) (I c 1) n (I fac) (J a8) (J tf (xb + I c 5).toNatClampNeg) = none ∧ F_X1_doWork kc tf xb I J R = (0, (u2 (u2 I la 1 2) la 2 (-1), J1, R)) ∧ J1 tf (xb + I c 5).toNatClampNeg = J tf (xb + I c 5).toNatClampNeg)) := by
  have one : ¬ (1 : Int32) = 0 := by decide
  simp only [F_X1_doWork, F_X4_noteFailure, nm, nmU, nmW, v5, v3, vc, clamp_toInt hl, Option.getD_some, giveE, apply_ite Prod.fst]
  unfold wkA
  have i01 : ∀ v, F_X11_isOf (I c 1) v = 0 ∨ F_X11_isOf (I c 1) v = 1 := fun v => isof01 hr
  by_cases h0 : (I c 4).toInt = 0
  · simp only [if_pos h0]
    have up := addUp_l (y := I c 6) v8 v7 ne hn hn4 hf (J0 := J) n 5 0 0 (u2 J kc 10 (I c 6).toInt64) (by decide) (by omega) (by omega) (fun z k h => u2_off h)
    rw [u2_at] at up
    obtain ⟨J1, g1, g2⟩ := up
    have g0 : F_X1_addUp kc c I J R = F_X1_addUp_11 kc c (I c 6) 5 I (u2 J kc 10 (I c 6).toInt64) R 0 := rfl
    rcases g2 with ⟨s, s1, s2, s3⟩ | ⟨s1, s2⟩
    · rw [g0, s2, s1]
      dsimp only
      rw [if_neg one]
      simp only [F_X1_addField, F_X1_addField_28, F_X1_addField_23, nm, nmU, addToE, addF]
      have etf : J1 tf (xb + I c 5).toNatClampNeg = J tf (xb + I c 5).toNatClampNeg := g1 _ _ (fun q => ntf q.1)
      by_cases hp : I c 5 = -1
      · simp only [if_pos hp, if_neg one]
        rw [s3]
        rcases i01 s with h | h
        · rw [h, if_pos rfl, if_pos rfl]
          exact ⟨_, fun z k h1 _ => by rw [u2_off h1]; exact g1 z k h1, Or.inr ⟨rfl, rfl, by rw [u2_ne ntf]; exact etf⟩⟩
        · rw [h, if_neg one, if_neg one]
          exact ⟨_, fun z k h1 _ => by rw [u2_off h1]; exact g1 z k h1, Or.inl ⟨s, none, rfl, rfl, by rw [u2_at], by rw [u2_ne ntf]; exact etf⟩⟩
      · simp only [if_neg hp]
        rw [etf, s3]
        by_cases hs : F_X10_sumStaysIn64 s (J tf (xb + I c 5).toNatClampNeg) = 0
        · have es : adds s (J tf (xb + I c 5).toNatClampNeg) = none := by unfold adds; rw [if_pos hs]
          rw [es, hs]
          simp only [if_true]
          exact ⟨_, fun z k h1 _ => by rw [u2_off h1]; exact g1 z k h1, Or.inr ⟨trivial, rfl, by rw [u2_ne ntf]; exact etf⟩⟩
        · have es : adds s (J tf (xb + I c 5).toNatClampNeg) = some (s + J tf (xb + I c 5).toNatClampNeg) := by unfold adds; rw [if_neg hs]
          rw [es]
          simp only [if_neg hs, if_neg one, u2_at]
          rcases i01 (s + J tf (xb + I c 5).toNatClampNeg) with h | h
          · rw [h, if_pos rfl, if_pos rfl]
            exact ⟨_, fun z k h1 _ => by rw [u2_off h1, u2_off h1]; exact g1 z k h1, Or.inr ⟨rfl, rfl, by rw [u2_ne ntf, u2_ne ntf]; exact etf⟩⟩
          · rw [h, if_neg one, if_neg one]
            exact ⟨_, fun z k h1 _ => by rw [u2_off h1, u2_off h1]; exact g1 z k h1, Or.inl ⟨_, none, rfl, rfl, by rw [u2_at], by rw [u2_ne ntf, u2_ne ntf]; exact etf⟩⟩
    · rw [g0, s2, s1]
      dsimp only
      rw [if_pos rfl]
      exact ⟨J1, fun z k h1 _ => g1 z k h1, Or.inr ⟨rfl, rfl, g1 _ _ (fun q => ntf q.1)⟩⟩
  · simp only [if_neg h0]
    by_cases h1 : (I c 4).toInt = 1
    · simp only [if_pos h1]
      rcases i01 (J tf (xb + I c 5).toNatClampNeg) with h | h
      · rw [h, if_pos rfl, if_pos rfl]
        exact ⟨_, fun z k h1 _ => u2_off h1, Or.inr ⟨rfl, rfl, by rw [u2_ne ntf]⟩⟩
      · rw [h, if_neg one, if_neg one]
        exact ⟨_, fun z k h1 _ => u2_off h1, Or.inl ⟨_, none, rfl, rfl, by rw [u2_at], by rw [u2_ne ntf]; rfl⟩⟩
    · simp only [if_neg h1, if_pos (show (I c 4).toInt = 2 by omega)]
      have up := wrF_l (xa := xb + I c 5) v8 ne ntf hr hn hn4 (J0 := J) n 5 0 0 (u2 J kc 10 0) (by decide) (by omega) (by omega) (fun z k h => u2_off h)
      rw [u2_at] at up
      obtain ⟨J1, g1, g2⟩ := up
      have g0 : F_X1_writeField kc c tf (xb + I c 5) I J R = F_X1_writeField_8 kc c tf (xb + I c 5) 5 I (u2 J kc 10 0) R 0 := rfl
      rcases g2 with ⟨s, s1, s2, s3, s4, s5⟩ | ⟨s1, s3, s4⟩
      · rw [g0, s3, s1]
        dsimp only
        rw [if_neg one, if_neg s2]
        exact ⟨J1, g1, Or.inl ⟨_, some s, rfl, rfl, s4, s5⟩⟩
      · rw [g0, s3]
        dsimp only
        rw [if_pos rfl]
        refine ⟨J1, g1, Or.inr ⟨?_, rfl, s4⟩⟩
        rcases s1 with s1 | s1
        · rw [s1]
        · cases sumW (tmW (J a8)) n 0 0 with
          | none => rfl
          | some s => dsimp only; rw [if_pos s1]
end WORKC2
theorem mulOk {v y : Int64} : (lg_cmp (F_J9_multiplyHigh_f86c9 v y) ((v * y) >>> (Int32.toInt64 (63 : Int32) &&& 63)) = 0) = (-9223372036854775808 ≤ v.toInt * y.toInt ∧ v.toInt * y.toInt < 9223372036854775808) := by
  rw [eqJ, mulHi, jsr63]
  obtain ⟨q, h1, h2, h3⟩ := jmul v y
  generalize v.toInt * y.toInt = p at *
  generalize (v * y).toInt = P at *
  exact propext ⟨fun h => by omega, fun h => by omega⟩
section WORKM
variable {I : hI} {R : hR} {mo y10 t16 ma mf e12 w13 f14 u15 : Nat}
theorem plusE {v : Int64} {J : hJ} : F_X11_plus mo v I J R = (if F_X10_sumStaysIn64 (J mo 55) v = 0 then 0 else 1, (I, u2 J mo 55 (J mo 55 + v), R)) := by
  by_cases h : lg_cmp ((J mo 55 ^^^ (J mo 55 + v)) &&& (v ^^^ (J mo 55 + v))) 0 < 0
  · have e : F_X10_sumStaysIn64 (J mo 55) v = 0 := by
      simp only [F_X10_sumStaysIn64, F_X10_sumStaysIn64_24, nm]
      rw [if_pos h]
    simp only [F_X11_plus, F_X11_plus_27, nm]
    rw [if_pos h, e, if_pos rfl]
  · have e : F_X10_sumStaysIn64 (J mo 55) v = 1 := by
      simp only [F_X10_sumStaysIn64, F_X10_sumStaysIn64_24, nm]
      rw [if_neg h]
    simp only [F_X11_plus, F_X11_plus_27, nm]
    rw [if_neg h, e, if_neg (show ¬ (1 : Int32) = 0 by decide)]
theorem mwk_l (v10 : R mo 10 = some y10) (v16 : R mo 16 = some t16) (v52 : R mo 52 = some ma) (nm_ : ma ≠ mo) {xc xo y4 y6 y3 y1 : Int32} {b2 b5 m n : Nat} (hm : xc.toInt = m) (bm : m < 120) (hn : (I y10 m).toInt = n) (hn4 : n ≤ 4) (h1 : y6.toInt ≠ 1) (tm : Nat → Option Int64) {J0 : hJ} (htm : tm = if y6.toInt = 0 then tmF (J0 ma) (fun i => I t16 (4 * m + i)) else tmW (J0 ma)) :
    ∀ (r f i : Nat) (x : Int32) (J : hJ), x.toInt = i → i + r = n → r < f → (∀ z k, ¬ (z = mo ∧ k = 55) → J z k = J0 z k) →
      (∃ J1, (∀ z k, ¬ (z = mo ∧ k = 55) → J1 z k = J0 z k) ∧ F_X11_doWork_41 mo xc xo y4 y6 y3 b2 b5 y1 f I J R 0 x = F_X11_doWork_149 mo xc xo y4 y6 y3 b2 b5 y1 I J1 R 0) ∧
      ∃ J1, (∀ z k, ¬ (z = mo ∧ k = 55) → J1 z k = J0 z k) ∧ ((∃ s, sumW tm r i (J mo 55) = some s ∧ F_X11_doWork_41 mo xc xo y4 y6 y3 b2 b5 y1 f I J R 1 x = F_X11_doWork_149 mo xc xo y4 y6 y3 b2 b5 y1 I J1 R 1 ∧ J1 mo 55 = s) ∨ (sumW tm r i (J mo 55) = none ∧ F_X11_doWork_41 mo xc xo y4 y6 y3 b2 b5 y1 f I J R 1 x = F_X11_doWork_149 mo xc xo y4 y6 y3 b2 b5 y1 I J1 R 0)) := by
  intro r
  induction r with
  | zero =>
    intro f i x J hx hr hf hJ
    obtain ⟨f', rfl⟩ : ∃ f', f = f' + 1 := ⟨f - 1, by omega⟩
    rw [F_X11_doWork_41_s, F_X11_doWork_41_s]
    simp only [B_X11_doWork_41, nm, v10, Option.getD_some, clamp_toInt hm]
    rw [if_pos (by rw [ile, hn, hx]; omega), if_pos (by rw [ile, hn, hx]; omega)]
    exact ⟨⟨J, hJ, rfl⟩, J, hJ, Or.inl ⟨_, rfl, rfl, rfl⟩⟩
  | succ r ih =>
    intro f i x J hx hr hf hJ
    obtain ⟨f', rfl⟩ : ∃ f', f = f' + 1 := ⟨f - 1, by omega⟩
    rw [F_X11_doWork_41_s, F_X11_doWork_41_s]
    have i16 : (4 * xc + x).toNatClampNeg = 4 * m + i := clamp_toInt (by rw [iadd (imul (x := 4) cI4 hm (by omega) (by omega)) hx (by omega) (by omega)]; omega)
    simp only [B_X11_doWork_41, F_X11_doWork_87, F_X11_doWork_140, F_X11_doWork_141, nm, nmU, v10, v16, v52, Option.getD_some, clamp_toInt hm, clamp_toInt hx, i16, plusE, mulOk]
    have zt : (0 : Int32) = 0 := rfl
    have one : ¬ (1 : Int32) = 0 := by decide
    have hx1 : (x + 1).toInt = ((i + 1 : Nat) : Int) := by rw [add1 (b := 4) (by omega) (by omega), hx]; omega
    have ea : J ma i = J0 ma i := hJ ma i (fun q => nm_ q.1)
    rw [if_neg (show ¬ I y10 m ≤ x by rw [ile, hn, hx]; omega), if_neg (show ¬ I y10 m ≤ x by rw [ile, hn, hx]; omega), if_neg (show ¬ y6 = 1 by rw [ieq, cI1]; exact h1), if_neg (show ¬ y6 = 1 by rw [ieq, cI1]; exact h1), ea]
    obtain ⟨z1, z2⟩ := ih f' (i + 1) (x + 1) J hx1 (by omega) (by omega) hJ
    have step : ∀ yy : Int64, tm i = (if -9223372036854775808 ≤ (J0 ma i).toInt * yy.toInt ∧ (J0 ma i).toInt * yy.toInt < 9223372036854775808 then some (J0 ma i * yy) else none) →
        ∃ J1, (∀ z k, ¬ (z = mo ∧ k = 55) → J1 z k = J0 z k) ∧ ((∃ s, sumW tm (r + 1) i (J mo 55) = some s ∧ (if -9223372036854775808 ≤ (J0 ma i).toInt * yy.toInt ∧ (J0 ma i).toInt * yy.toInt < 9223372036854775808 then (if (if F_X10_sumStaysIn64 (J mo 55) (J0 ma i * yy) = 0 then (0 : Int32) else 1) = 0 then F_X11_doWork_41 mo xc xo y4 y6 y3 b2 b5 y1 f' I (u2 J mo 55 (J mo 55 + J0 ma i * yy)) R 0 (x + 1) else F_X11_doWork_41 mo xc xo y4 y6 y3 b2 b5 y1 f' I (u2 J mo 55 (J mo 55 + J0 ma i * yy)) R 1 (x + 1)) else F_X11_doWork_41 mo xc xo y4 y6 y3 b2 b5 y1 f' I J R 0 (x + 1)) = F_X11_doWork_149 mo xc xo y4 y6 y3 b2 b5 y1 I J1 R 1 ∧ J1 mo 55 = s) ∨ (sumW tm (r + 1) i (J mo 55) = none ∧ (if -9223372036854775808 ≤ (J0 ma i).toInt * yy.toInt ∧ (J0 ma i).toInt * yy.toInt < 9223372036854775808 then (if (if F_X10_sumStaysIn64 (J mo 55) (J0 ma i * yy) = 0 then (0 : Int32) else 1) = 0 then F_X11_doWork_41 mo xc xo y4 y6 y3 b2 b5 y1 f' I (u2 J mo 55 (J mo 55 + J0 ma i * yy)) R 0 (x + 1) else F_X11_doWork_41 mo xc xo y4 y6 y3 b2 b5 y1 f' I (u2 J mo 55 (J mo 55 + J0 ma i * yy)) R 1 (x + 1)) else F_X11_doWork_41 mo xc xo y4 y6 y3 b2 b5 y1 f' I J R 0 (x + 1)) = F_X11_doWork_149 mo xc xo y4 y6 y3 b2 b5 y1 I J1 R 0)) := fun yy ht => by
      simp only [sumW]
      by_cases hin : -9223372036854775808 ≤ (J0 ma i).toInt * yy.toInt ∧ (J0 ma i).toInt * yy.toInt < 9223372036854775808
      · rw [if_pos hin] at ht
        simp only [if_pos hin, ht]
        obtain ⟨w1, w2⟩ := ih f' (i + 1) (x + 1) (u2 J mo 55 (J mo 55 + J0 ma i * yy)) hx1 (by omega) (by omega) (fun z k h => by rw [u2_off h]; exact hJ z k h)
        by_cases hs : F_X10_sumStaysIn64 (J mo 55) (J0 ma i * yy) = 0
        · have es : adds (J mo 55) (J0 ma i * yy) = none := by unfold adds; rw [if_pos hs]
          simp only [es, if_pos hs, if_true]
          obtain ⟨J1, q1, q2⟩ := w1
          exact ⟨J1, q1, Or.inr ⟨trivial, q2⟩⟩
        · have es : adds (J mo 55) (J0 ma i * yy) = some (J mo 55 + J0 ma i * yy) := by unfold adds; rw [if_neg hs]
          simp only [es, if_neg hs, if_neg one]
          rw [u2_at] at w2
          exact w2
      · rw [if_neg hin] at ht
        simp only [if_neg hin, ht]
        obtain ⟨J1, q1, q2⟩ := z1
        exact ⟨J1, q1, Or.inr ⟨trivial, q2⟩⟩
    have t64 : ∀ y : Int32, y.toInt64.toInt = y.toInt := fun y => Int32.toInt_toInt64 y
    by_cases h0 : y6.toInt = 0
    · have e0 : y6 = 0 := by rw [ieq, cI0]; exact h0
      rw [if_pos h0] at htm
      simp only [if_pos e0, if_pos zt, if_neg one]
      refine ⟨z1, step (I t16 (4 * m + i)).toInt64 ?_⟩
      rw [htm, t64]
      unfold tmF inR64
      by_cases hin : -9223372036854775808 ≤ (J0 ma i).toInt * (I t16 (4 * m + i)).toInt ∧ (J0 ma i).toInt * (I t16 (4 * m + i)).toInt < 9223372036854775808
      · rw [if_pos hin]
      · rw [if_neg hin]
    · have e0 : ¬ y6 = 0 := by rw [ieq, cI0]; exact h0
      rw [if_neg h0] at htm
      simp only [if_neg e0, if_pos zt, if_neg one]
      refine ⟨z1, step 1 ?_⟩
      have g := jrg (J0 ma i)
      rw [htm, show Int64.toInt 1 = 1 by decide, Int.mul_one, if_pos g, Int64.mul_one]
      rfl
theorem doWorkM (v10 : R mo 10 = some y10) (v16 : R mo 16 = some t16) (v52 : R mo 52 = some ma) (v12 : R mo 12 = some e12) (v13 : R mo 13 = some w13) (v14 : R mo 14 = some f14) (v15 : R mo 15 = some u15) (v23 : R mo 23 = some mf) (nm_ : ma ≠ mo) (nf : mf ≠ mo) (nmf : ma ≠ mf) {xc xo : Int32} {m n at_ : Nat} (hm : xc.toInt = m) (bm : m < 120) (hn : (I y10 m).toInt = n) (hn4 : n ≤ 4) (hk : 0 ≤ (I w13 m).toInt ∧ (I w13 m).toInt ≤ 2) (hr : 0 ≤ (I e12 m).toInt ∧ (I e12 m).toInt ≤ 6) (hat : (3 * xo + I f14 m).toNatClampNeg = at_) {J : hJ} :
    ∃ J1, (∀ z k, ¬ (z = mo ∧ (k = 54 ∨ k = 55)) → ¬ (z = mf ∧ k = at_) → J1 z k = J z k) ∧ ((∃ z nf', wkA (I w13 m) (I f14 m) (I u15 m) (I e12 m) n (fun i => I t16 (4 * m + i)) (J ma) (J mf at_) = some (z, nf') ∧ F_X11_doWork mo xc xo I J R = (1, (I, J1, R)) ∧ J1 mo 54 = z ∧ J1 mf at_ = nf'.getD (J mf at_)) ∨ (wkA (I w13 m) (I f14 m) (I u15 m) (I e12 m) n (fun i => I t16 (4 * m + i)) (J ma) (J mf at_) = none ∧ F_X11_doWork mo xc xo I J R = (0, (I, J1, R)) ∧ J1 mf at_ = J mf at_)) := by
  have one : ¬ (1 : Int32) = 0 := by decide
  have off55 : ∀ {J2 : hJ} {w : Int64} {z k : Nat}, ¬ (z = mo ∧ (k = 54 ∨ k = 55)) → u2 J2 mo 54 w z k = J2 z k := fun h => u2_off (fun q => h ⟨q.1, Or.inl q.2⟩)
  have i01 : ∀ v, F_X11_isOf (I e12 m) v = 0 ∨ F_X11_isOf (I e12 m) v = 1 := fun v => isof01 hr
  simp only [F_X11_doWork, F_X11_doWork_32, nm, v13, v14, v15, Option.getD_some, clamp_toInt hm]
  rw [show ((4 - Int32.toInt 0).toNat + 1) = 5 by decide]
  unfold wkA
  have t149 : ∀ (J2 : hJ) (fl : Int32), F_X11_doWork_149 mo xc xo (3 * xo + I f14 m) (I w13 m) (I f14 m) f14 w13 (3 * xo) I J2 R fl = F_X11_doWork_149 mo xc xo (3 * xo + I f14 m) (I w13 m) (I f14 m) f14 w13 (3 * xo) I J2 R fl := fun _ _ => rfl
  by_cases h0 : (I w13 m).toInt = 0
  · have e0 : I w13 m = 0 := by rw [ieq, cI0]; exact h0
    have e2 : ¬ I w13 m = 2 := by rw [e0]; decide
    simp only [if_pos h0]
    rw [if_pos e0]
    obtain ⟨-, J1, g1, g2⟩ := mwk_l (xo := xo) (y4 := 3 * xo + I f14 m) (y6 := I w13 m) (y3 := I f14 m) (y1 := 3 * xo) (b2 := f14) (b5 := w13) v10 v16 v52 nm_ hm bm hn hn4 (by omega) (tmF (J ma) (fun i => I t16 (4 * m + i))) (J0 := J) (by rw [if_pos h0]) n 5 0 0 (u2 J mo 55 (I u15 m).toInt64) (by decide) (by omega) (by omega) (fun z k h => u2_off h)
    rw [u2_at] at g2
    have emf : J1 mf at_ = J mf at_ := g1 _ _ (fun q => nf q.1)
    have fr : ∀ z k, ¬ (z = mo ∧ (k = 54 ∨ k = 55)) → J1 z k = J z k := fun z k h => g1 z k (fun q => h ⟨q.1, Or.inr q.2⟩)
    rcases g2 with ⟨s, s1, s2, s3⟩ | ⟨s1, s2⟩
    · rw [s2, s1]
      simp only [F_X11_doWork_149, F_X11_doWork_190, F_X11_doWork_186, F_X11_doWork_191, F_X11_doWork_214, F_X11_doWork_235, F_X11_doWork_257, nm, nmU, v12, v23, Option.getD_some, clamp_toInt hm, hat, plusE, addF]
      rw [if_pos e0, if_neg one]
      by_cases hp : I f14 m = -1
      · simp only [if_pos hp, u2_at, if_neg one]
        rw [s3]
        rcases i01 s with h | h
        · rw [h, if_pos rfl, if_pos rfl]
          exact ⟨_, fun z k h1 _ => by rw [off55 h1]; exact fr z k h1, Or.inr ⟨rfl, rfl, by rw [u2_ne nf]; exact emf⟩⟩
        · rw [h, if_neg one, if_neg one, if_neg e2]
          exact ⟨_, fun z k h1 _ => by rw [off55 h1]; exact fr z k h1, Or.inl ⟨s, none, rfl, rfl, by rw [u2_at], by rw [u2_ne nf]; exact emf⟩⟩
      · simp only [if_neg hp]
        rw [emf, s3]
        by_cases hs : F_X10_sumStaysIn64 s (J mf at_) = 0
        · have es : adds s (J mf at_) = none := by unfold adds; rw [if_pos hs]
          rw [es]
          simp only [if_pos hs, if_true]
          exact ⟨_, fun z k h1 _ => by rw [off55 h1, u2_off (fun q => h1 ⟨q.1, Or.inr q.2⟩)]; exact fr z k h1, Or.inr ⟨trivial, rfl, by rw [u2_ne nf, u2_ne nf]; exact emf⟩⟩
        · have es : adds s (J mf at_) = some (s + J mf at_) := by unfold adds; rw [if_neg hs]
          rw [es]
          simp only [if_neg hs, if_neg one, u2_at]
          rcases i01 (s + J mf at_) with h | h
          · rw [h, if_pos rfl, if_pos rfl]
            exact ⟨_, fun z k h1 _ => by rw [off55 h1, u2_off (fun q => h1 ⟨q.1, Or.inr q.2⟩)]; exact fr z k h1, Or.inr ⟨rfl, rfl, by rw [u2_ne nf, u2_ne nf]; exact emf⟩⟩
          · rw [h, if_neg one, if_neg one, if_neg e2]
            exact ⟨_, fun z k h1 _ => by rw [off55 h1, u2_off (fun q => h1 ⟨q.1, Or.inr q.2⟩)]; exact fr z k h1, Or.inl ⟨_, none, rfl, rfl, by rw [u2_at], by rw [u2_ne nf, u2_ne nf]; exact emf⟩⟩
    · rw [s2, s1]
      simp only [F_X11_doWork_149, F_X11_doWork_190, F_X11_doWork_191, F_X11_doWork_214, F_X11_doWork_235, nm]
      rw [if_pos e0, if_pos trivial, if_pos trivial]
      exact ⟨_, fun z k h1 _ => by rw [off55 h1]; exact fr z k h1, Or.inr ⟨trivial, rfl, by rw [u2_ne nf]; exact emf⟩⟩
  · have e0 : ¬ I w13 m = 0 := by rw [ieq, cI0]; exact h0
    simp only [if_neg h0]
    rw [if_neg e0]
    by_cases h1 : (I w13 m).toInt = 1
    · have e1 : I w13 m = 1 := by rw [ieq, cI1]; exact h1
      have e2 : ¬ I w13 m = 2 := by rw [e1]; decide
      have go : ∃ f', F_X11_doWork_41 mo xc xo (3 * xo + I f14 m) (I w13 m) (I f14 m) f14 w13 (3 * xo) 5 I (u2 J mo 55 0) R 1 0 = F_X11_doWork_149 mo xc xo (3 * xo + I f14 m) (I w13 m) (I f14 m) f14 w13 (3 * xo) I (u2 J mo 55 0) R f' ∧ f' = 1 := by
        refine ⟨1, ?_, rfl⟩
        rw [show (5 : Nat) = 4 + 1 from rfl, F_X11_doWork_41_s]
        simp only [B_X11_doWork_41, nm, v10, Option.getD_some, clamp_toInt hm]
        rw [if_pos e1, ite_self]
      obtain ⟨f', go, rfl⟩ := go
      rw [go]
      simp only [F_X11_doWork_149, F_X11_doWork_214, F_X11_doWork_235, F_X11_doWork_257, nm, v12, v23, Option.getD_some, clamp_toInt hm, hat]
      rw [if_neg e0, if_neg one, u2_at, u2_ne nf]
      simp only [if_pos h1]
      rcases i01 (J mf at_) with h | h
      · rw [h, if_pos rfl, if_pos rfl]
        exact ⟨_, fun z k h1 _ => by rw [off55 h1, u2_off (fun q => h1 ⟨q.1, Or.inr q.2⟩)], Or.inr ⟨rfl, rfl, by rw [u2_ne nf, u2_ne nf]⟩⟩
      · rw [h, if_neg one, if_neg one, if_neg e2]
        exact ⟨_, fun z k h1 _ => by rw [off55 h1, u2_off (fun q => h1 ⟨q.1, Or.inr q.2⟩)], Or.inl ⟨_, none, rfl, rfl, by rw [u2_at], by rw [u2_ne nf, u2_ne nf]; rfl⟩⟩
    · have e2 : I w13 m = 2 := by rw [ieq, cI2]; omega
      simp only [if_neg h1]
      obtain ⟨-, J1, g1, g2⟩ := mwk_l (xo := xo) (y4 := 3 * xo + I f14 m) (y6 := I w13 m) (y3 := I f14 m) (y1 := 3 * xo) (b2 := f14) (b5 := w13) v10 v16 v52 nm_ hm bm hn hn4 h1 (tmW (J ma)) (J0 := J) (by rw [if_neg h0]) n 5 0 0 (u2 J mo 55 0) (by decide) (by omega) (by omega) (fun z k h => u2_off h)
      rw [u2_at] at g2
      have emf : J1 mf at_ = J mf at_ := g1 _ _ (fun q => nf q.1)
      have fr : ∀ z k, ¬ (z = mo ∧ (k = 54 ∨ k = 55)) → J1 z k = J z k := fun z k h => g1 z k (fun q => h ⟨q.1, Or.inr q.2⟩)
      rcases g2 with ⟨s, s1, s2, s3⟩ | ⟨s1, s2⟩
      · rw [s2, s1]
        simp only [F_X11_doWork_149, F_X11_doWork_214, F_X11_doWork_235, F_X11_doWork_257, nm, v12, v23, Option.getD_some, clamp_toInt hm, hat]
        rw [if_neg e0, if_neg one, u2_at, emf]
        rcases i01 (J mf at_) with h | h
        · rw [h, if_pos rfl, if_pos rfl]
          exact ⟨_, fun z k h1 _ => by rw [off55 h1]; exact fr z k h1, Or.inr ⟨rfl, rfl, by rw [u2_ne nf]; exact emf⟩⟩
        · rw [h, if_neg one, if_neg one, if_pos e2]
          refine ⟨_, fun z k h1 h2 => by rw [u2_off h2, off55 h1]; exact fr z k h1, Or.inl ⟨_, some s, rfl, rfl, by rw [u2_ne (fun q => nf q.symm), u2_at], ?_⟩⟩
          rw [u2_at, u2_nk (by decide), s3]
          rfl
      · rw [s2, s1]
        simp only [F_X11_doWork_149, F_X11_doWork_214, F_X11_doWork_235, nm, v23, Option.getD_some]
        rw [if_neg e0, if_pos trivial]
        exact ⟨_, fun z k h1 _ => by rw [off55 h1]; exact fr z k h1, Or.inr ⟨trivial, rfl, by rw [u2_ne nf]; exact emf⟩⟩
end WORKM
