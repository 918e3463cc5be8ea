/-! the model's ways: tables of exact steps -/
def Lw (I : hI) (sc n v : Nat) : Int := (I sc (10 * n + v)).toInt
def fcN (I : hI) (sF n v k : Nat) : Nat := (I sF (10 * (10 * n + v) + k)).toNatClampNeg
def RwW (I : hI) (sF n v : Nat) : List Nat := sfx (fun k => 10 * fcN I sF n v k + fcN I sF n v (k + 1)) 0 n
def wcs (I : hI) (st e : Nat) : Int := (I st e).toInt
def wpr (I : hI) (st e : Nat) : Prop := e < 100 ∧ (I st e).toInt < 1000000
theorem wEok {I : hI} {st : Nat} (hst : ∀ e, e < 100 → (0 ≤ wcs I st e ∧ wcs I st e ≤ 9132) ∨ wcs I st e = 1000000) : Eok 10 100 wsrc wdst (wcs I st) (wpr I st) := fun e he => by
  have h1 := hst e he.1
  have h2 := he.1
  refine ⟨by unfold wsrc; omega, by unfold wdst; omega, by omega, h2⟩
section WM1
variable {mo sc sF st : Nat} {J : hJ} {R : hR}
theorem wahead_l {x1 x2 x3 : Int32} {I : hI} {row oth n : Nat} {A B : Nat → Nat} (v : R mo 45 = some sF) (h1 : x1.toInt = row) (h2 : x2.toInt = oth) (h3 : x3.toInt = n) (b1 : row ≤ 990) (b2 : oth ≤ 990) (b3 : n ≤ 9) (hs : ∀ q, q < 1000 → 0 ≤ (I sF q).toInt ∧ (I sF q).toInt ≤ 9) (hA : ∀ j, j < n → A j = (I sF (row + j)).toNatClampNeg) (hB : ∀ j, j < n → B j = (I sF (oth + j)).toNatClampNeg) (hn : A n = B n) (hlt : A n < 10) :
    ∀ (f k : Nat) (x : Int32), x.toInt = ((k + 1 : Nat) : Int) → k + 1 ≤ n → n < f + (k + 1) → A k = B k → F_X11_isWayAhead_3 mo x1 x2 x3 f I J R x = if cd 100 (sfx (fun j => 10 * A j + A (j + 1)) k (n - k)) < cd 100 (sfx (fun j => 10 * B j + B (j + 1)) k (n - k)) then 1 else 0 := by
  have dA : ∀ j, j ≤ n → A j < 10 := fun j hj => by
    by_cases e : j = n
    · rw [e]; exact hlt
    · rw [hA j (by omega)]
      have h := hs (row + j) (by omega)
      have := nat_of h.1
      omega
  have dB : ∀ j, j ≤ n → B j < 10 := fun j hj => by
    by_cases e : j = n
    · rw [e, ← hn]; exact hlt
    · rw [hB j (by omega)]
      have h := hs (oth + j) (by omega)
      have := nat_of h.1
      omega
  intro f
  induction f with
  | zero => intro k x _ q1 q2; omega
  | succ f ih =>
    intro k x hx hk hf hkk
    rw [F_X11_isWayAhead_3_s]
    simp only [B_X11_isWayAhead_3, F_X11_isWayAhead_56, nm, v, Option.getD_some]
    by_cases e : k + 1 = n
    · rw [if_pos (by rw [ile, hx, h3]; omega), show n - k = 0 + 1 by omega]
      simp only [sfx, e, hn, hkk]
      rw [if_neg (Nat.lt_irrefl _)]
    · rw [if_neg (by rw [ile, hx, h3]; omega)]
      have i1 : (x1 + x).toNatClampNeg = row + (k + 1) := clamp_toInt (by rw [iadd h1 hx (by omega) (by omega)]; omega)
      have i2 : (x2 + x).toNatClampNeg = oth + (k + 1) := clamp_toInt (by rw [iadd h2 hx (by omega) (by omega)]; omega)
      have hx1 : (x + 1).toInt = ((k + 1 + 1 : Nat) : Int) := by rw [add1 (b := 10) (by omega) (by omega), hx]; omega
      rw [i1, i2]
      have g1 := hs (row + (k + 1)) (by omega)
      have g2 := hs (oth + (k + 1)) (by omega)
      have m1 := nat_of g1.1
      have m2 := nat_of g2.1
      rw [← hA (k + 1) (by omega)] at m1
      rw [← hB (k + 1) (by omega)] at m2
      rw [show n - k = (n - (k + 1)) + 1 by omega]
      simp only [sfx, cd, sfx_len]
      have la := sfx_lt (Bs := 100) (g := fun j => 10 * A j + A (j + 1)) (n - (k + 1)) (k + 1) (fun j q1 q2 => by
        have := dA j (by omega)
        have := dA (j + 1) (by omega)
        show 10 * A j + A (j + 1) < 100
        omega)
      have lb := sfx_lt (Bs := 100) (g := fun j => 10 * B j + B (j + 1)) (n - (k + 1)) (k + 1) (fun j q1 q2 => by
        have := dB j (by omega)
        have := dB (j + 1) (by omega)
        show 10 * B j + B (j + 1) < 100
        omega)
      by_cases q : I sF (row + (k + 1)) = I sF (oth + (k + 1))
      · have ek : A (k + 1) = B (k + 1) := by rw [hA (k + 1) (by omega), hB (k + 1) (by omega), q]
        rw [if_pos q, ih (k + 1) (x + 1) hx1 (by omega) (by omega) ek, hkk, ek]
        by_cases z : cd 100 (sfx (fun j => 10 * A j + A (j + 1)) (k + 1) (n - (k + 1))) < cd 100 (sfx (fun j => 10 * B j + B (j + 1)) (k + 1) (n - (k + 1)))
        · rw [if_pos z, if_pos (by omega)]
        · rw [if_neg z, if_neg (by omega)]
      · rw [if_neg q, hkk]
        have ne := Rg_ne q
        by_cases z : I sF (oth + (k + 1)) ≤ I sF (row + (k + 1))
        · have := Rg_le z
          rw [if_pos z, if_neg]
          have lt : (10 * B k + B (k + 1)) + 1 ≤ 10 * B k + A (k + 1) := by omega
          have := Nat.mul_le_mul_right (100 ^ (n - (k + 1))) lt
          rw [Nat.add_mul _ 1, Nat.one_mul] at this
          omega
        · have := Rg_nle z
          rw [if_neg z, if_pos]
          have lt : (10 * B k + A (k + 1)) + 1 ≤ 10 * B k + B (k + 1) := by omega
          have := Nat.mul_le_mul_right (100 ^ (n - (k + 1))) lt
          rw [Nat.add_mul _ 1, Nat.one_mul] at this
          omega
theorem wahead {x1 x2 x3 : Int32} {I : hI} {row oth n : Nat} {A B : Nat → Nat} (v : R mo 45 = some sF) (h1 : x1.toInt = row) (h2 : x2.toInt = oth) (h3 : x3.toInt = n) (b1 : row ≤ 990) (b2 : oth ≤ 990) (b0 : 1 ≤ n) (b3 : n ≤ 9) (hs : ∀ q, q < 1000 → 0 ≤ (I sF q).toInt ∧ (I sF q).toInt ≤ 9) (hA : ∀ j, j < n → A j = (I sF (row + j)).toNatClampNeg) (hB : ∀ j, j < n → B j = (I sF (oth + j)).toNatClampNeg) (hn : A n = B n) (hlt : A n < 10) (h0 : A 0 = B 0) :
    F_X11_isWayAhead mo x1 x2 x3 I J R = if cd 100 (sfx (fun j => 10 * A j + A (j + 1)) 0 n) < cd 100 (sfx (fun j => 10 * B j + B (j + 1)) 0 n) then 1 else 0 := by
  have main := wahead_l (J := J) v h1 h2 h3 b1 b2 b3 hs hA hB hn hlt 9 0 1 (by decide) (by omega) (by omega) h0
  have c0 : Int32.toInt 0 = ((0 : Nat) : Int) := by decide
  have i1 : (x1 + 0).toNatClampNeg = row + 0 := clamp_toInt (by rw [iadd h1 c0 (by omega) (by omega)]; omega)
  have i2 : (x2 + 0).toNatClampNeg = oth + 0 := clamp_toInt (by rw [iadd h2 c0 (by omega) (by omega)]; omega)
  have q : I sF (row + 0) = I sF (oth + 0) := by
    rw [hA 0 (by omega), hB 0 (by omega)] at h0
    have m1 := nat_of (hs (row + 0) (by omega)).1
    have m2 := nat_of (hs (oth + 0) (by omega)).1
    exact Int32.toInt_inj.mp (by omega)
  show F_X11_isWayAhead_3 mo x1 x2 x3 (9 + 1) I J R 0 = _
  rw [F_X11_isWayAhead_3_s]
  simp only [B_X11_isWayAhead_3, nm, v, Option.getD_some, i1, i2]
  rw [if_neg (by rw [ile, h3, cI0]; omega), if_pos q, show (0 : Int32) + 1 = 1 by decide, main]
  rfl
theorem wcopy_l (v45 : R mo 45 = some sF) {n now bef : Nat} {x1 x2 xn xa xb x6 x7 : Int32} {k1 k2 k3 : hI → hJ → hR → Int32 → (Int32 × hU)} (hn : xn.toInt = n) (hn9 : n ≤ 9) (h6 : x6.toInt = bef) (h7 : x7.toInt = now) (bt : now < 100) (dj : bef + 1 ≤ now) {I0 : hI} :
    ∀ (f p : Nat) (x : Int32) (I : hI), x.toInt = p → p ≤ n → n < f + p → (∀ c, c ≠ sF → I c = I0 c) → (∀ q, I sF q = if 10 * now ≤ q ∧ q < 10 * now + p then I0 sF (10 * bef + (q - 10 * now)) else I0 sF q) →
    ∃ I1, F_X11_findWay_241 mo x1 x2 xn xa xb k1 k2 k3 f I J R x6 x7 x = k3 I1 J R (xb + 1) ∧ (∀ c, c ≠ sF → I1 c = I0 c) ∧ ∀ q, I1 sF q = if 10 * now ≤ q ∧ q < 10 * now + n then I0 sF (10 * bef + (q - 10 * now)) else if q = 10 * now + n then xb else I0 sF q := by
  intro f
  induction f with
  | zero => intro p x I _ q1 q2; omega
  | succ f ih =>
    intro p x I hx hp hf hc hI
    rw [F_X11_findWay_241_s]
    simp only [B_X11_findWay_241, F_X11_findWay_293, nm, v45, Option.getD_some]
    have m7 := imul (x := 10) (y := x7) cI10 h7 (by omega) (by omega)
    have m6 := imul (x := 10) (y := x6) cI10 h6 (by omega) (by omega)
    by_cases e : p = n
    · rw [if_pos (by rw [ile, hx, hn]; omega)]
      have i1 : (10 * x7 + xn).toNatClampNeg = 10 * now + n := clamp_toInt (by rw [iadd m7 hn (by omega) (by omega)]; omega)
      rw [i1]
      refine ⟨_, rfl, fun c h => by rw [u2_ne h, hc c h], fun q => ?_⟩
      by_cases z : q = 10 * now + n
      · rw [if_neg (by omega), if_pos z, z, u2_at]
      · rw [u2_nk z, hI q, if_neg z, e]
    · rw [if_neg (by rw [ile, hx, hn]; omega)]
      have i1 : (10 * x7 + x).toNatClampNeg = 10 * now + p := clamp_toInt (by rw [iadd m7 hx (by omega) (by omega)]; omega)
      have i2 : (10 * x6 + x).toNatClampNeg = 10 * bef + p := clamp_toInt (by rw [iadd m6 hx (by omega) (by omega)]; omega)
      rw [i1, i2]
      refine ih (p + 1) (x + 1) (u2 I sF (10 * now + p) (I sF (10 * bef + p))) (by rw [add1 (b := 10) (by omega) (by omega), hx]; omega) (by omega) (by omega) (fun c h => by rw [u2_ne h, hc c h]) (fun q => ?_)
      by_cases z : q = 10 * now + p
      · subst z
        rw [u2_at, hI (10 * bef + p), if_neg (by omega), if_pos (by omega), show 10 * now + p - 10 * now = p by omega]
      · rw [u2_nk z, hI q]
        by_cases z2 : 10 * now ≤ q ∧ q < 10 * now + p
        · rw [if_pos z2, if_pos (by omega)]
        · rw [if_neg z2, if_neg (by omega)]
end WM1
/-- while the level m + 1 is made: the edges below k have been looked at -/
def WL1 (I0 I : hI) (sc sF st m a0 k : Nat) : Prop :=
  (∀ c, c ≠ sc → c ≠ sF → I c = I0 c) ∧ (∀ q, (q < 10 * (m + 1) ∨ 10 * (m + 1) + 10 ≤ q) → I sc q = I0 sc q) ∧ (∀ q, (q < 100 * (m + 1) ∨ 100 * (m + 1) + 100 ≤ q) → I sF q = I0 sF q) ∧ (∀ q, q < 1000 → 0 ≤ (I sF q).toInt ∧ (I sF q).toInt ≤ 9) ∧
  (∀ v, v < 10 → Lw I sc (m + 1) v = 1000000 ∨ (0 ≤ Lw I sc (m + 1) v ∧ Lw I sc (m + 1) v ≤ 9132 * (m + 1))) ∧ (∀ v, v < 10 → Lw I sc (m + 1) v < 1000000 → fcN I sF (m + 1) v 0 = a0 ∧ fcN I sF (m + 1) v (m + 1) = v) ∧
  Stpp 10 100 k 1000000 wsrc wdst (wcs I0 st) (wpr I0 st) (Lw I0 sc m) (RwW I0 sF m) (Lw I sc (m + 1)) (RwW I sF (m + 1))
section WM2
variable {mo sc sF st : Nat} {J : hJ} {R : hR}
set_option maxHeartbeats 1000000 in
theorem wb_l (v44 : R mo 44 = some sc) (v45 : R mo 45 = some sF) (v46 : R mo 46 = some st) (n1 : st ≠ sc) (n2 : st ≠ sF) (nn : sc ≠ sF) {m a a0 : Nat} {x1 x2 xn xa : Int32} (hn : xn.toInt = ((m + 1 : Nat) : Int)) (hm : m ≤ 8) (ha : xa.toInt = a) (ba : a < 10) {k1 k2 : hI → hJ → hR → Int32 → (Int32 × hU)} {I0 : hI}
    (hst : ∀ e, e < 100 → (0 ≤ wcs I0 st e ∧ wcs I0 st e ≤ 9132) ∨ wcs I0 st e = 1000000) (hs0 : ∀ v, v < 10 → Lw I0 sc m v = 1000000 ∨ (0 ≤ Lw I0 sc m v ∧ Lw I0 sc m v ≤ 9132 * m)) (hf0 : ∀ v, v < 10 → Lw I0 sc m v < 1000000 → fcN I0 sF m v 0 = a0 ∧ fcN I0 sF m v m = v) :
    ∀ (f p : Nat) (x : Int32) (I : hI), x.toInt = p → p ≤ 10 → 10 < f + p → WL1 I0 I sc sF st m a0 (10 * a + p) →
      ∃ I1, F_X11_findWay_130 mo x1 x2 xn xa k1 k2 f I J R x = k2 I1 J R (xa + 1) ∧ WL1 I0 I1 sc sF st m a0 (10 * a + 10) := by
  intro f
  induction f with
  | zero => intro p x I _ q1 q2; omega
  | succ f ih =>
    intro p x I hx hp hf hW
    rw [F_X11_findWay_130_s]
    simp only [B_X11_findWay_130, nm, v44, v46, Option.getD_some]
    by_cases e : p = 10
    · rw [if_pos (by rw [ile, hx, cI10]; omega)]
      subst e
      exact ⟨I, rfl, hW⟩
    · rw [if_neg (by rw [ile, hx, cI10]; omega)]
      have hW0 := hW
      obtain ⟨hc, hsc, hsF, hdg, hlv, hfc, hstp⟩ := hW
      have bp : p < 10 := by omega
      have hx1 : (x + 1).toInt = ((p + 1 : Nat) : Int) := by rw [add1 (b := 10) (by omega) (by omega), hx]; omega
      have hn0 := isub hn cI1 (by omega) (by omega)
      have m7 := imul (x := 10) cI10 hn0 (by omega) (by omega)
      have y61 := iadd m7 ha (by omega) (by omega)
      have i61 : (10 * (xn - 1) + xa).toNatClampNeg = 10 * m + a := clamp_toInt (by rw [y61]; omega)
      have k7 := imul (x := 10) cI10 hn (by omega) (by omega)
      have y63 := iadd k7 hx (by omega) (by omega)
      have i63 : (10 * xn + x).toNatClampNeg = 10 * (m + 1) + p := clamp_toInt (by rw [y63]; omega)
      have m8 := imul (x := 10) cI10 ha (by omega) (by omega)
      have i68 : (10 * xa + x).toNatClampNeg = 10 * a + p := clamp_toInt (by rw [iadd m8 hx (by omega) (by omega)]; omega)
      have y80 := imul (x := 10) cI10 y61 (by omega) (by omega)
      have y81 := imul (x := 10) cI10 y63 (by omega) (by omega)
      rw [i61, i63, i68, hc st n1 n2, show I sc (10 * m + a) = I0 sc (10 * m + a) from hsc _ (Or.inl (by omega))]
      have hbef : (I0 sc (10 * m + a)).toInt = Lw I0 sc m a := rfl
      have hcur : (I sc (10 * (m + 1) + p)).toInt = Lw I sc (m + 1) p := rfl
      have hste : (I0 st (10 * a + p)).toInt = wcs I0 st (10 * a + p) := rfl
      have ws : wsrc (10 * a + p) = a := by unfold wsrc; omega
      have wd : wdst (10 * a + p) = p := by unfold wdst; omega
      have r1 := hst (10 * a + p) (by omega)
      have r2 := hs0 a ba
      have y70 : (I0 sc (10 * m + a) + I0 st (10 * a + p)).toInt = Lw I0 sc m a + wcs I0 st (10 * a + p) := iadd hbef hste (by omega) (by omega)
      have skip : (wpr I0 st (10 * a + p) → Lw I0 sc m a < 1000000 → Lw I sc (m + 1) p ≤ Lw I0 sc m a + wcs I0 st (10 * a + p) ∧ (Lw I sc (m + 1) p = Lw I0 sc m a + wcs I0 st (10 * a + p) → cd 100 (RwW I sF (m + 1) p) ≤ cd 100 (RwW I0 sF m a ++ [10 * a + p]))) →
          WL1 I0 I sc sF st m a0 (10 * a + (p + 1)) := fun hsk => by
        refine ⟨hc, hsc, hsF, hdg, hlv, hfc, fun v hv => ?_⟩
        obtain ⟨t1, t2⟩ := hstp v hv
        refine ⟨t1.imp id (fun ⟨e, q1, q⟩ => ⟨e, by omega, q⟩), fun e he hpe hd hlt => ?_⟩
        by_cases z : e = 10 * a + p
        · subst z
          rw [wd] at hd
          rw [ws] at hlt ⊢
          subst hd
          exact hsk hpe hlt
        · exact t2 e (by omega) hpe hd hlt
      have go := fun hsk => ih (p + 1) (x + 1) I hx1 (by omega) (by omega) (skip hsk)
      have cF : Int32.toInt 1000000 = 1000000 := by decide
      simp only [F_X11_findWay_293, nm]
      by_cases hF : (1000000 : Int32) ≤ I0 sc (10 * m + a) + I0 st (10 * a + p)
      · rw [if_pos hF]
        have h9 := Rg_le hF
        rw [cF, y70] at h9
        exact go (fun h1 h2 => by
          have h3 : wcs I0 st (10 * a + p) < 1000000 := h1.2
          omega)
      · rw [if_neg hF]
        have h9 := Rg_nle hF
        rw [cF, y70] at h9
        have hpe : wpr I0 st (10 * a + p) := ⟨by omega, by show wcs I0 st (10 * a + p) < 1000000; omega⟩
        have hlt : Lw I0 sc m a < 1000000 := by omega
        have take : (Lw I0 sc m a + wcs I0 st (10 * a + p) < Lw I sc (m + 1) p ∨ (Lw I0 sc m a + wcs I0 st (10 * a + p) = Lw I sc (m + 1) p ∧ cd 100 (RwW I0 sF m a ++ [10 * a + p]) < cd 100 (RwW I sF (m + 1) p))) →
            ∃ I1, F_X11_findWay_229 mo x1 x2 xn xa x k1 k2 (F_X11_findWay_130 mo x1 x2 xn xa k1 k2 f) I J R (10 * (xn - 1) + xa) (10 * xn + x) (I0 sc (10 * m + a) + I0 st (10 * a + p)) = k2 I1 J R (xa + 1) ∧ WL1 I0 I1 sc sF st m a0 (10 * a + 10) := fun htk => by
          simp only [F_X11_findWay_229, nm, v44, Option.getD_some, i63]
          rw [show ((9 - Int32.toInt 0).toNat + 1) = 10 by decide]
          obtain ⟨I1, c1, c2, c3⟩ := wcopy_l (mo := mo) (J := J) (R := R) (x1 := x1) (x2 := x2) (xa := xa) (xb := x) (k1 := k1) (k2 := k2) (k3 := F_X11_findWay_130 mo x1 x2 xn xa k1 k2 f) (n := m + 1) (now := 10 * (m + 1) + p) (bef := 10 * m + a) v45 hn (by omega) (show (10 * (xn - 1) + xa).toInt = ((10 * m + a : Nat) : Int) by rw [y61]; omega) (show (10 * xn + x).toInt = ((10 * (m + 1) + p : Nat) : Int) by rw [y63]; omega) (by omega) (by omega) (I0 := u2 I sc (10 * (m + 1) + p) (I0 sc (10 * m + a) + I0 st (10 * a + p))) 10 0 0 (u2 I sc (10 * (m + 1) + p) (I0 sc (10 * m + a) + I0 st (10 * a + p))) (by decide) (by omega) (by omega) (fun _ _ => rfl) (fun q => by rw [if_neg (by omega)])
          have k1' : ∀ c, c ≠ sc → c ≠ sF → I1 c = I0 c := fun c h1 h2 => by rw [c2 c h2, u2_ne h1, hc c h1 h2]
          have k2' : I1 sc = u2 I sc (10 * (m + 1) + p) (I0 sc (10 * m + a) + I0 st (10 * a + p)) sc := c2 sc nn
          have k3 : ∀ q, I1 sF q = if 10 * (10 * (m + 1) + p) ≤ q ∧ q < 10 * (10 * (m + 1) + p) + (m + 1) then I sF (10 * (10 * m + a) + (q - 10 * (10 * (m + 1) + p))) else if q = 10 * (10 * (m + 1) + p) + (m + 1) then x else I sF q := fun q => by
            have := c3 q
            rw [u2_ne (fun h => nn h.symm)] at this
            exact this
          have l1 : ∀ v, Lw I1 sc (m + 1) v = if v = p then Lw I0 sc m a + wcs I0 st (10 * a + p) else Lw I sc (m + 1) v := fun v => by
            unfold Lw
            rw [k2']
            by_cases z : v = p
            · rw [if_pos z, z, u2_at, y70]; rfl
            · rw [if_neg z, u2_nk (by omega)]
          have hff := hf0 a ba hlt
          have fn1 : ∀ k, k < m + 1 → fcN I1 sF (m + 1) p k = fcN I0 sF m a k := fun k hk => by
            unfold fcN
            rw [k3, if_pos (by omega), show 10 * (10 * m + a) + (10 * (10 * (m + 1) + p) + k - 10 * (10 * (m + 1) + p)) = 10 * (10 * m + a) + k by omega, hsF _ (Or.inl (by omega))]
          have fn2 : fcN I1 sF (m + 1) p (m + 1) = p := by
            unfold fcN
            rw [k3, if_neg (by omega), if_pos rfl, clamp_toInt hx]
          have fn3 : ∀ v k, v < 10 → v ≠ p → k ≤ m + 1 → fcN I1 sF (m + 1) v k = fcN I sF (m + 1) v k := fun v k hv hvp hk => by
            unfold fcN
            rw [k3, if_neg (by omega), if_neg (by omega)]
          have l2 : ∀ v, v < 10 → RwW I1 sF (m + 1) v = if v = p then RwW I0 sF m a ++ [10 * a + p] else RwW I sF (m + 1) v := fun v hv => by
            by_cases z : v = p
            · rw [if_pos z, z]
              unfold RwW
              rw [sfx_snoc]
              congr 1
              · refine sfx_congr _ _ (fun j q1 q2 => ?_)
                show 10 * fcN I1 sF (m + 1) p j + fcN I1 sF (m + 1) p (j + 1) = 10 * fcN I0 sF m a j + fcN I0 sF m a (j + 1)
                rw [fn1 j (by omega), fn1 (j + 1) (by omega)]
              · show [10 * fcN I1 sF (m + 1) p (0 + m) + fcN I1 sF (m + 1) p (0 + m + 1)] = [10 * a + p]
                rw [show 0 + m = m by omega, fn1 m (by omega), fn2, hff.2]
            · rw [if_neg z]
              unfold RwW
              refine sfx_congr _ _ (fun j q1 q2 => ?_)
              show 10 * fcN I1 sF (m + 1) v j + fcN I1 sF (m + 1) v (j + 1) = 10 * fcN I sF (m + 1) v j + fcN I sF (m + 1) v (j + 1)
              rw [fn3 v j hv z (by omega), fn3 v (j + 1) hv z (by omega)]
          rw [c1]
          refine ih (p + 1) (x + 1) I1 hx1 (by omega) (by omega) ⟨k1', fun q hq => by rw [k2', u2_nk (by omega)]; exact hsc q hq, fun q hq => by rw [k3, if_neg (by omega), if_neg (by omega)]; exact hsF q hq, fun q hq => ?_, fun v hv => ?_, fun v hv hl => ?_, fun v hv => ?_⟩
          · rw [k3]
            split
            · exact hdg _ (by omega)
            · split
              · rw [hx]; omega
              · exact hdg q hq
          · rw [l1]
            by_cases z : v = p
            · rw [if_pos z]; exact Or.inr ⟨by omega, by omega⟩
            · rw [if_neg z]; exact hlv v hv
          · by_cases z : v = p
            · rw [z, fn2, fn1 0 (by omega)]
              exact ⟨hff.1, rfl⟩
            · rw [l1, if_neg z] at hl
              rw [fn3 v 0 hv z (by omega), fn3 v (m + 1) hv z (by omega)]
              exact hfc v hv hl
          · obtain ⟨t1, t2⟩ := hstp v hv
            rw [l1, l2 v hv]
            by_cases z : v = p
            · rw [if_pos z, if_pos z]
              refine ⟨Or.inr ⟨10 * a + p, by omega, hpe, by rw [wd]; exact z.symm, by rw [ws]; exact hlt, by rw [ws], by rw [ws]⟩, fun e he hpe' hd hle => ?_⟩
              by_cases q : e = 10 * a + p
              · subst q
                rw [ws]
                exact ⟨Int.le_refl _, fun _ => Nat.le_refl _⟩
              · obtain ⟨u1, u2_⟩ := t2 e (by omega) hpe' hd hle
                rw [z] at u1 u2_
                clear t1 t2 hstp hW0
                refine ⟨by omega, fun h => ?_⟩
                rcases htk with h1 | ⟨h1, h2⟩
                · omega
                · have := u2_ (by omega)
                  omega
            · rw [if_neg z, if_neg z]
              refine ⟨t1.imp id (fun ⟨e, q1, q⟩ => ⟨e, by omega, q⟩), fun e he hpe' hd hle => ?_⟩
              by_cases q : e = 10 * a + p
              · subst q
                exact absurd (by rw [← hd, wd]) z
              · exact t2 e (by omega) hpe' hd hle
        by_cases hc1 : I0 sc (10 * m + a) + I0 st (10 * a + p) < I sc (10 * (m + 1) + p)
        · rw [if_pos hc1]
          have := Rg_lt hc1
          rw [y70, hcur] at this
          exact take (Or.inl this)
        · rw [if_neg hc1]
          have h1 := Rg_nlt hc1
          rw [y70, hcur] at h1
          by_cases hc2 : I0 sc (10 * m + a) + I0 st (10 * a + p) = I sc (10 * (m + 1) + p)
          · rw [if_pos hc2]
            have h2 : Lw I0 sc m a + wcs I0 st (10 * a + p) = Lw I sc (m + 1) p := by rw [← y70, hc2]; rfl
            have hff := hf0 a ba hlt
            have hgg := hfc p bp (by omega)
            have fr : ∀ j, j ≤ m → fcN I sF m a j = fcN I0 sF m a j := fun j hj => by unfold fcN; rw [hsF _ (Or.inl (by omega))]
            have ah := wahead (I := I) (J := J) (x1 := 10 * (10 * (xn - 1) + xa)) (x2 := 10 * (10 * xn + x)) (x3 := xn) (row := 10 * (10 * m + a)) (oth := 10 * (10 * (m + 1) + p)) (n := m + 1) (A := fun j => if j = m + 1 then p else fcN I sF m a j) (B := fun j => fcN I sF (m + 1) p j) v45 (by rw [y80]; omega) (by rw [y81]; omega) hn (by omega) (by omega) (by omega) (by omega) hdg (fun j hj => by show (if j = m + 1 then p else fcN I sF m a j) = _; rw [if_neg (by omega)]; rfl) (fun j hj => rfl) (by show (if m + 1 = m + 1 then p else fcN I sF m a (m + 1)) = fcN I sF (m + 1) p (m + 1); rw [if_pos rfl, hgg.2]) (by show (if m + 1 = m + 1 then p else fcN I sF m a (m + 1)) < 10; rw [if_pos rfl]; exact bp) (by show (if 0 = m + 1 then p else fcN I sF m a 0) = fcN I sF (m + 1) p 0; rw [if_neg (by omega), fr 0 (by omega), hff.1, hgg.1])
            have ea : sfx (fun j => 10 * (fun j => if j = m + 1 then p else fcN I sF m a j) j + (fun j => if j = m + 1 then p else fcN I sF m a j) (j + 1)) 0 (m + 1) = RwW I0 sF m a ++ [10 * a + p] := by
              unfold RwW
              rw [sfx_snoc]
              congr 1
              · refine sfx_congr _ _ (fun j q1 q2 => ?_)
                show 10 * (if j = m + 1 then p else fcN I sF m a j) + (if j + 1 = m + 1 then p else fcN I sF m a (j + 1)) = 10 * fcN I0 sF m a j + fcN I0 sF m a (j + 1)
                rw [if_neg (by omega), if_neg (by omega), fr j (by omega), fr (j + 1) (by omega)]
              · show [10 * (if 0 + m = m + 1 then p else fcN I sF m a (0 + m)) + (if 0 + m + 1 = m + 1 then p else fcN I sF m a (0 + m + 1))] = [10 * a + p]
                rw [if_neg (by omega), if_pos (by omega), show 0 + m = m by omega, fr m (by omega), hff.2]
            rw [ea] at ah
            have eo : sfx (fun j => 10 * (fun j => fcN I sF (m + 1) p j) j + (fun j => fcN I sF (m + 1) p j) (j + 1)) 0 (m + 1) = RwW I sF (m + 1) p := rfl
            rw [eo] at ah
            rw [ah]
            by_cases z : cd 100 (RwW I0 sF m a ++ [10 * a + p]) < cd 100 (RwW I sF (m + 1) p)
            · rw [if_pos z, if_neg (show ¬ ((1 : Int32) = 0) by decide)]
              exact take (Or.inr ⟨h2, z⟩)
            · rw [if_neg z, if_pos rfl]
              exact go (fun _ _ => ⟨by omega, fun _ => by omega⟩)
          · rw [if_neg hc2]
            have h2 := Rg_ne hc2
            rw [y70, hcur] at h2
            exact go (fun _ _ => ⟨by omega, fun h => by omega⟩)
theorem wa_l (v44 : R mo 44 = some sc) (v45 : R mo 45 = some sF) (v46 : R mo 46 = some st) (n1 : st ≠ sc) (n2 : st ≠ sF) (nn : sc ≠ sF) {m a0 : Nat} {x1 x2 xn : Int32} (hn : xn.toInt = ((m + 1 : Nat) : Int)) (hm : m ≤ 8) {k1 : hI → hJ → hR → Int32 → (Int32 × hU)} {I0 : hI}
    (hst : ∀ e, e < 100 → (0 ≤ wcs I0 st e ∧ wcs I0 st e ≤ 9132) ∨ wcs I0 st e = 1000000) (hs0 : ∀ v, v < 10 → Lw I0 sc m v = 1000000 ∨ (0 ≤ Lw I0 sc m v ∧ Lw I0 sc m v ≤ 9132 * m)) (hf0 : ∀ v, v < 10 → Lw I0 sc m v < 1000000 → fcN I0 sF m v 0 = a0 ∧ fcN I0 sF m v m = v) :
    ∀ (f p : Nat) (x : Int32) (I : hI), x.toInt = p → p ≤ 10 → 10 < f + p → WL1 I0 I sc sF st m a0 (10 * p) →
      ∃ I1, F_X11_findWay_120 mo x1 x2 xn k1 f I J R x = k1 I1 J R (xn + 1) ∧ WL1 I0 I1 sc sF st m a0 100 := by
  intro f
  induction f with
  | zero => intro p x I _ q1 q2; omega
  | succ f ih =>
    intro p x I hx hp hf hW
    rw [F_X11_findWay_120_s]
    simp only [B_X11_findWay_120, nm]
    by_cases e : p = 10
    · rw [if_pos (by rw [ile, hx, cI10]; omega)]
      subst e
      exact ⟨I, rfl, hW⟩
    · rw [if_neg (by rw [ile, hx, cI10]; omega)]
      obtain ⟨I1, c1, c2⟩ := wb_l (J := J) (x1 := x1) (x2 := x2) (k1 := k1) (k2 := F_X11_findWay_120 mo x1 x2 xn k1 f) v44 v45 v46 n1 n2 nn hn hm hx (show p < 10 by omega) hst hs0 hf0 11 0 0 I (by decide) (by omega) (by omega) (by rw [Nat.add_zero]; exact hW)
      rw [show ((10 - Int32.toInt 0).toNat + 1) = 11 by decide, c1]
      exact ih (p + 1) (x + 1) I1 (by rw [add1 (b := 10) (by omega) (by omega), hx]; omega) (by omega) (by omega) (by rw [show 10 * (p + 1) = 10 * p + 10 by omega]; exact c2)
/-- the levels up to m are made -/
def WMm (I0 I : hI) (sc sF st m a0 : Nat) : Prop :=
  (∀ c, c ≠ sc → c ≠ sF → I c = I0 c) ∧ (∀ q, q < 1000 → 0 ≤ (I sF q).toInt ∧ (I sF q).toInt ≤ 9) ∧ (∀ n, n ≤ m → ∀ v, v < 10 → Lw I sc n v = 1000000 ∨ (0 ≤ Lw I sc n v ∧ Lw I sc n v ≤ 9132 * n)) ∧ (∀ n, m < n → n ≤ 9 → ∀ v, v < 10 → Lw I sc n v = 1000000) ∧
  (∀ n, n ≤ m → ∀ v, v < 10 → Lw I sc n v < 1000000 → fcN I sF n v 0 = a0 ∧ fcN I sF n v n = v) ∧ Mok 10 m 100 1000000 wsrc wdst (wcs I0 st) (wpr I0 st) a0 (Lw I sc) (RwW I sF)
theorem wlev_l (v44 : R mo 44 = some sc) (v45 : R mo 45 = some sF) (v46 : R mo 46 = some st) (n1 : st ≠ sc) (n2 : st ≠ sF) (nn : sc ≠ sF) {a0 : Nat} {x1 x2 : Int32} {I0 : hI} (hst : ∀ e, e < 100 → (0 ≤ wcs I0 st e ∧ wcs I0 st e ≤ 9132) ∨ wcs I0 st e = 1000000) :
    ∀ (f m : Nat) (x : Int32) (I : hI), x.toInt = ((m + 1 : Nat) : Int) → m ≤ 9 → 9 < f + m → WMm I0 I sc sF st m a0 →
      ∃ I1, F_X11_findWay_111 mo x1 x2 f I J R x = F_X11_findWay_316 mo x1 x2 10 I1 J R 0 1 ∧ WMm I0 I1 sc sF st 9 a0 := by
  intro f
  induction f with
  | zero => intro m x I _ q1 q2; omega
  | succ f ih =>
    intro m x I hx hm hf hW
    rw [F_X11_findWay_111_s]
    simp only [B_X11_findWay_111]
    by_cases e : m = 9
    · rw [if_pos (by rw [ile, hx, cI10]; omega), show ((10 - Int32.toInt 1).toNat + 1) = 10 by decide]
      subst e
      exact ⟨I, rfl, hW⟩
    · rw [if_neg (by rw [ile, hx, cI10]; omega)]
      obtain ⟨hc, hdg, hlv, hz, hfc, hM⟩ := hW
      have ec : wcs I st = wcs I0 st := by unfold wcs; rw [hc st n1 n2]
      have ep : wpr I st = wpr I0 st := by unfold wpr; rw [hc st n1 n2]
      obtain ⟨I1, c1, c2⟩ := wa_l (J := J) (x1 := x1) (x2 := x2) (m := m) (a0 := a0) (k1 := F_X11_findWay_111 mo x1 x2 f) (I0 := I) v44 v45 v46 n1 n2 nn hx (by omega) (by rw [ec]; exact hst) (hlv m (Nat.le_refl _)) (hfc m (Nat.le_refl _)) 11 0 0 I (by decide) (by omega) (by omega) ⟨fun _ _ _ => rfl, fun _ _ => rfl, fun _ _ => rfl, hdg, fun v hv => Or.inl (hz (m + 1) (by omega) (by omega) v hv), fun v hv h => by have := hz (m + 1) (by omega) (by omega) v hv; omega, fun v hv => ⟨Or.inl (hz (m + 1) (by omega) (by omega) v hv), fun e he => by omega⟩⟩
      rw [show ((10 - Int32.toInt 0).toNat + 1) = 11 by decide, c1]
      obtain ⟨d1, d2, d3, d4, d5, d6, d7⟩ := c2
      rw [ec, ep] at d7
      have s1 : ∀ n, n ≤ m → ∀ v, v < 10 → Lw I1 sc n v = Lw I sc n v := fun n hn v hv => by unfold Lw; rw [d2 _ (Or.inl (by omega))]
      have sf : ∀ n, n ≤ m → ∀ v, v < 10 → ∀ k, k ≤ 9 → fcN I1 sF n v k = fcN I sF n v k := fun n hn v hv k hk => by unfold fcN; rw [d3 _ (Or.inl (by omega))]
      have s2 : ∀ n, n ≤ m → ∀ v, v < 10 → RwW I1 sF n v = RwW I sF n v := fun n hn v hv => by
        unfold RwW
        refine sfx_congr _ _ (fun j q1 q2 => ?_)
        show 10 * fcN I1 sF n v j + fcN I1 sF n v (j + 1) = 10 * fcN I sF n v j + fcN I sF n v (j + 1)
        rw [sf n hn v hv j (by omega), sf n hn v hv (j + 1) (by omega)]
      have hb1 : ∀ n, n ≤ m + 1 → ∀ v, v < 10 → Lw I1 sc n v = 1000000 ∨ (0 ≤ Lw I1 sc n v ∧ Lw I1 sc n v ≤ 9132 * n) := fun n hn v hv => by
        by_cases q : n = m + 1
        · subst q
          have := d5 v hv
          omega
        · rw [s1 n (by omega) v hv]
          exact hlv n (by omega) v hv
      have hEo := wEok hst
      have hM1 : Mok 10 (m + 1) 100 1000000 wsrc wdst (wcs I0 st) (wpr I0 st) a0 (Lw I1 sc) (RwW I1 sF) := by
        refine Mok.step (k := 100) hEo (fun e he => he.1) (hM.congr s1 s2) (d7.congr hEo (s1 m (Nat.le_refl _)) (s2 m (Nat.le_refl _))) (fun v hv => ?_)
        have := hb1 (m + 1) (Nat.le_refl _) v hv
        omega
      refine ih (m + 1) (x + 1) I1 (by rw [add1 (b := 10) (by omega) (by omega), hx]; omega) (by omega) (by omega) ⟨fun c h1 h2 => by rw [d1 c h1 h2, hc c h1 h2], d4, hb1, fun n h1 h2 v hv => ?_, fun n hn v hv hl => ?_, hM1⟩
      · unfold Lw
        rw [d2 _ (Or.inr (by omega))]
        exact hz n (by omega) h2 v hv
      · by_cases q : n = m + 1
        · subst q
          exact d6 v hv hl
        · rw [s1 n (by omega) v hv] at hl
          rw [sf n (by omega) v hv 0 (by omega), sf n (by omega) v hv n (by omega)]
          exact hfc n (by omega) v hv hl
theorem winit_l (v44 : R mo 44 = some sc) (v45 : R mo 45 = some sF) (nn : sc ≠ sF) {x1 x2 : Int32} {I0 : hI} {a : Nat} (ha : x1.toInt = a) (ba : a < 10) :
    ∀ (f p : Nat) (x : Int32) (I : hI), x.toInt = p → p ≤ 100 → 100 < f + p → (∀ c, c ≠ sc → I c = I0 c) → (∀ q, q < p → (I sc q).toInt = if q = a then 0 else 1000000) →
      ∃ I1, F_X11_findWay_70 mo x1 x2 f I J R x = F_X11_findWay_111 mo x1 x2 10 I1 J R 1 ∧ (∀ c, c ≠ sc → c ≠ sF → I1 c = I0 c) ∧ (∀ q, q < 100 → (I1 sc q).toInt = if q = a then 0 else 1000000) ∧ (∀ q, q ≠ 10 * a → I1 sF q = I0 sF q) ∧ (I1 sF (10 * a)).toInt = a := by
  intro f
  induction f with
  | zero => intro p x I _ q1 q2; omega
  | succ f ih =>
    intro p x I hx hp hf hc hI
    rw [F_X11_findWay_70_s]
    simp only [B_X11_findWay_70, F_X11_findWay_92, nm, v44, v45, Option.getD_some, clamp_toInt hx]
    by_cases e : p = 100
    · rw [if_pos (by rw [ile, hx, cI100]; omega), show ((10 - Int32.toInt 1).toNat + 1) = 10 by decide]
      subst e
      have m1 := imul (x := 10) cI10 ha (by omega) (by omega)
      have i1 : (10 * x1).toNatClampNeg = 10 * a := clamp_toInt (by rw [m1]; omega)
      rw [i1]
      refine ⟨_, rfl, fun c h1 h2 => by rw [u2_ne h2, hc c h1], fun q hq => by rw [u2_ne nn]; exact hI q hq, fun q hq => by rw [u2_nk hq, hc sF (fun z => nn z.symm)], by rw [u2_at, ha]⟩
    · rw [if_neg (by rw [ile, hx, cI100]; omega)]
      have hx1 : (x + 1).toInt = ((p + 1 : Nat) : Int) := by rw [add1 (b := 100) (by omega) (by omega), hx]; omega
      by_cases q : x = x1
      · rw [if_pos q]
        have hpa : p = a := by rw [q, ha] at hx; omega
        exact ih (p + 1) (x + 1) (u2 I sc p 0) hx1 (by omega) (by omega) (fun c h => by rw [u2_ne h, hc c h]) (fun z hz => by
          by_cases z1 : z = p
          · rw [z1, u2_at, if_pos hpa]; decide
          · rw [u2_nk z1]; exact hI z (by omega))
      · rw [if_neg q]
        have hpa : p ≠ a := fun h => q (by rw [ieq, hx, ha, h])
        exact ih (p + 1) (x + 1) (u2 I sc p 1000000) hx1 (by omega) (by omega) (fun c h => by rw [u2_ne h, hc c h]) (fun z hz => by
          by_cases z1 : z = p
          · rw [z1, u2_at, if_neg hpa]; decide
          · rw [u2_nk z1]; exact hI z (by omega))
theorem wtake_l {tw : Nat} (v44 : R mo 44 = some sc) (v45 : R mo 45 = some sF) (v48 : R mo 48 = some tw) (n1 : tw ≠ mo) (n2 : tw ≠ sc) (n3 : tw ≠ sF) {x1 x2 x3 : Int32} {b n : Nat} (hb : x2.toInt = b) (bb : b < 10) (h3 : x3.toInt = n) (bn : n < 10) {I0 : hI} (h47 : (I0 mo 47).toInt = ((n + 1 : Nat) : Int)) :
    ∀ (f p : Nat) (x : Int32) (I : hI), x.toInt = p → p ≤ n + 1 → n + 1 < f + p → (∀ c, c ≠ tw → I c = I0 c) → (∀ q, q < p → I tw q = I0 sF (10 * (10 * n + b) + q)) →
      ∃ I1, F_X11_findWay_372 mo x1 x2 f I J R x3 x = (I0 sc (10 * n + b), (I1, J, R)) ∧ (∀ c, c ≠ tw → I1 c = I0 c) ∧ ∀ q, q < n + 1 → I1 tw q = I0 sF (10 * (10 * n + b) + q) := by
  intro f
  induction f with
  | zero => intro p x I _ q1 q2; omega
  | succ f ih =>
    intro p x I hx hp hf hc hI
    rw [F_X11_findWay_372_s]
    simp only [B_X11_findWay_372, nm, v44, v45, v48, Option.getD_some, clamp_toInt hx]
    have m3 := imul (x := 10) cI10 h3 (by omega) (by omega)
    have a3 := iadd m3 hb (by omega) (by omega)
    have i3 : (10 * x3 + x2).toNatClampNeg = 10 * n + b := clamp_toInt (by rw [a3]; omega)
    have m33 := imul (x := 10) cI10 a3 (by omega) (by omega)
    have i4 : (10 * (10 * x3 + x2) + x).toNatClampNeg = 10 * (10 * n + b) + p := clamp_toInt (by rw [iadd m33 hx (by omega) (by omega)]; omega)
    rw [i3, i4, hc mo (fun z => n1 z.symm), hc sc (fun z => n2 z.symm), hc sF (fun z => n3 z.symm)]
    by_cases e : p = n + 1
    · rw [if_pos (by rw [ile, hx, h47]; omega)]
      subst e
      exact ⟨I, rfl, hc, hI⟩
    · rw [if_neg (by rw [ile, hx, h47]; omega)]
      refine ih (p + 1) (x + 1) (u2 I tw p (I0 sF (10 * (10 * n + b) + p))) (by rw [add1 (b := 11) (by omega) (by omega), hx]; omega) (by omega) (by omega) (fun c h => by rw [u2_ne h, hc c h]) (fun q hq => ?_)
      by_cases z : q = p
      · rw [z, u2_at]
      · rw [u2_nk z]; exact hI q (by omega)
theorem wbest_l {tw : Nat} (v44 : R mo 44 = some sc) (v45 : R mo 45 = some sF) (v48 : R mo 48 = some tw) (n1 : tw ≠ mo) (n2 : tw ≠ sc) (n3 : tw ≠ sF) (n4 : mo ≠ sc) (n5 : mo ≠ sF) {x1 x2 : Int32} {b : Nat} (hb : x2.toInt = b) (bb : b < 10) {I : hI} :
    ∀ (f n m : Nat) (x3 x4 : Int32), x3.toInt = n → x4.toInt = m → n < m → m ≤ 10 → 10 < f + m → (∀ k, k < m → Lw I sc n b ≤ Lw I sc k b) → (∀ k, k < n → Lw I sc n b < Lw I sc k b) →
      ∃ I1 n0, F_X11_findWay_316 mo x1 x2 f I J R x3 x4 = (I sc (10 * n0 + b), (I1, J, R)) ∧ n0 < 10 ∧ (∀ k, k < 10 → Lw I sc n0 b ≤ Lw I sc k b) ∧ (∀ k, k < n0 → Lw I sc n0 b < Lw I sc k b) ∧ (∀ c, c ≠ tw → c ≠ mo → I1 c = I c) ∧ (∀ k, k ≠ 47 → I1 mo k = I mo k) ∧ (I1 mo 47).toInt = ((n0 + 1 : Nat) : Int) ∧ ∀ k, k < n0 + 1 → I1 tw k = I sF (10 * (10 * n0 + b) + k) := by
  intro f
  induction f with
  | zero => intro n m x3 x4 _ _ _ q1 q2; omega
  | succ f ih =>
    intro n m x3 x4 h3 h4 hnm hm hf hmin hfst
    rw [F_X11_findWay_316_s]
    simp only [B_X11_findWay_316, F_X11_findWay_355, nm, v44, Option.getD_some]
    by_cases e : m = 10
    · rw [if_pos (by rw [ile, h4, cI10]; omega), show ((10 - Int32.toInt 0).toNat + 1) = 11 by decide]
      have h31 : (x3 + 1).toInt = ((n + 1 : Nat) : Int) := by rw [add1 (b := 10) (by omega) (by omega), h3]; omega
      obtain ⟨I1, c1, c2, c3⟩ := wtake_l (J := J) (x1 := x1) (b := b) (n := n) v44 v45 v48 n1 n2 n3 hb bb h3 (by omega) (I0 := u2 I mo 47 (x3 + 1)) (by rw [u2_at]; exact h31) 11 0 0 (u2 I mo 47 (x3 + 1)) (by decide) (by omega) (by omega) (fun _ _ => rfl) (fun q hq => by omega)
      rw [u2_ne (fun z => n4 z.symm)] at c1
      rw [u2_ne (fun z => n5 z.symm)] at c3
      refine ⟨I1, n, c1, by omega, fun k hk => hmin k (by omega), hfst, fun c h1 h2 => by rw [c2 c h1, u2_ne h2], fun k hk => by rw [c2 mo (fun z => n1 z.symm), u2_nk hk], by rw [c2 mo (fun z => n1 z.symm), u2_at]; exact h31, c3⟩
    · rw [if_neg (by rw [ile, h4, cI10]; omega)]
      have m3 := imul (x := 10) cI10 h3 (by omega) (by omega)
      have i3 : (10 * x3 + x2).toNatClampNeg = 10 * n + b := clamp_toInt (by rw [iadd m3 hb (by omega) (by omega)]; omega)
      have m4 := imul (x := 10) cI10 h4 (by omega) (by omega)
      have i4 : (10 * x4 + x2).toNatClampNeg = 10 * m + b := clamp_toInt (by rw [iadd m4 hb (by omega) (by omega)]; omega)
      rw [i3, i4]
      have h41 : (x4 + 1).toInt = ((m + 1 : Nat) : Int) := by rw [add1 (b := 10) (by omega) (by omega), h4]; omega
      by_cases q : I sc (10 * n + b) ≤ I sc (10 * m + b)
      · rw [if_pos q]
        have q1 : Lw I sc n b ≤ Lw I sc m b := Rg_le q
        exact ih n (m + 1) x3 (x4 + 1) h3 h41 (by omega) (by omega) (by omega) (fun k hk => by
          by_cases z : k = m
          · rw [z]; exact q1
          · exact hmin k (by omega)) hfst
      · rw [if_neg q]
        have q1 : Lw I sc m b < Lw I sc n b := Rg_nle q
        exact ih m (m + 1) x4 (x4 + 1) h4 h41 (by omega) (by omega) (by omega) (fun k hk => by
          by_cases z : k = m
          · rw [z]; exact Int.le_refl _
          · have := hmin k (by omega); omega) (fun k hk => by have := hmin k hk; omega)
end WM2
