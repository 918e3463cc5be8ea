/-! the model's tables of exact steps -/
def sfx (g : Nat → Nat) : Nat → Nat → List Nat
  | _, 0 => []
  | k, m + 1 => g k :: sfx g (k + 1) m
theorem sfx_len {g : Nat → Nat} : ∀ m k, (sfx g k m).length = m := by
  intro m
  induction m with
  | zero => intro k; rfl
  | succ m ih => intro k; simp only [sfx, List.length_cons, ih]
theorem sfx_congr {g h : Nat → Nat} : ∀ m k, (∀ j, k ≤ j → j < k + m → g j = h j) → sfx g k m = sfx h k m := by
  intro m
  induction m with
  | zero => intro k _; rfl
  | succ m ih =>
    intro k hj
    simp only [sfx]
    rw [hj k (Nat.le_refl _) (by omega), ih (k + 1) (fun j h1 h2 => hj j (by omega) (by omega))]
theorem sfx_snoc {g : Nat → Nat} : ∀ m k, sfx g k (m + 1) = sfx g k m ++ [g (k + m)] := by
  intro m
  induction m with
  | zero => intro k; rfl
  | succ m ih =>
    intro k
    rw [sfx, ih (k + 1)]
    simp only [sfx, List.cons_append]
    rw [show k + 1 + m = k + (m + 1) by omega]
theorem sfx_lt {g : Nat → Nat} {Bs : Nat} : ∀ m k, (∀ j, k ≤ j → j < k + m → g j < Bs) → cd Bs (sfx g k m) < Bs ^ m := by
  intro m
  induction m with
  | zero => intro k _; simp [sfx, cd]
  | succ m ih =>
    intro k hj
    have q1 := hj k (Nat.le_refl _) (by omega)
    have q2 := ih (k + 1) (fun j h1 h2 => hj j (by omega) (by omega))
    simp only [sfx, cd, sfx_len, Nat.pow_succ]
    have q3 : (g k + 1) * Bs ^ m ≤ Bs * Bs ^ m := Nat.mul_le_mul_right _ q1
    rw [Nat.add_mul, Nat.one_mul] at q3
    rw [Nat.mul_comm (Bs ^ m) Bs]
    omega
/-- what isAhead() tells: a row is less than another one -/
theorem ahead_l {a0 sR : Nat} {x1 x2 x3 x4 : Int32} {I : hI} {J : hJ} {R : hR} {row oth n r : Nat} (v : R a0 36 = some sR) (h1 : x1.toInt = row) (h2 : x2.toInt = r) (h3 : x3.toInt = oth) (h4 : x4.toInt = n) (b1 : row ≤ 288) (b3 : oth ≤ 288) (b4 : n ≤ 6) (br : r < 32) (hs : ∀ q, q < 294 → 0 ≤ (I sR q).toInt ∧ (I sR q).toInt < 32) :
    ∀ (f k : Nat) (x : Int32), x.toInt = k → k ≤ n → n < f + k → F_X11_isAhead_3 a0 x1 x2 x3 x4 f I J R x = if cd 32 (sfx (fun j => if j = n - 1 then r else (I sR (row + j)).toNatClampNeg) k (n - k)) < cd 32 (sfx (fun j => (I sR (oth + j)).toNatClampNeg) k (n - k)) then 1 else 0 := by
  intro f
  induction f with
  | zero => intro k x _ q1 q2; omega
  | succ f ih =>
    intro k x hx hk hf
    rw [F_X11_isAhead_3_s]
    simp only [B_X11_isAhead_3, F_X11_isAhead_32, F_X11_isAhead_67, nm, v, Option.getD_some]
    by_cases e : k = n
    · rw [if_pos (by rw [ile, hx, h4]; omega)]
      subst e
      simp [sfx]
    · rw [if_neg (by rw [ile, hx, h4]; omega)]
      have i1 : (x1 + x).toNatClampNeg = row + k := clamp_toInt (by rw [iadd h1 hx (by omega) (by omega)]; omega)
      have i3 : (x3 + x).toNatClampNeg = oth + k := clamp_toInt (by rw [iadd h3 hx (by omega) (by omega)]; omega)
      have hx1 : (x + 1).toInt = ((k + 1 : Nat) : Int) := by rw [add1 (b := 6) (by omega) (by omega), hx]; omega
      rw [i1, i3]
      have ek : (x = x4 - 1) = (k = n - 1) := by
        rw [ieq, hx, isub h4 cI1 (by omega) (by omega)]
        exact propext ⟨fun h => by omega, fun h => by omega⟩
      have next := ih (k + 1) (x + 1) hx1 (by omega) (by omega)
      obtain ⟨A, hA⟩ : ∃ A : Int32, A = if k = n - 1 then x2 else I sR (row + k) := ⟨_, rfl⟩
      have hAr : 0 ≤ A.toInt ∧ A.toInt < 32 := by
        rw [hA]
        by_cases q : k = n - 1
        · rw [if_pos q, h2]; omega
        · rw [if_neg q]; exact hs _ (by omega)
      have hAn : A.toNatClampNeg = if k = n - 1 then r else (I sR (row + k)).toNatClampNeg := by
        rw [hA]
        by_cases q : k = n - 1
        · rw [if_pos q, if_pos q]; exact clamp_toInt h2
        · rw [if_neg q, if_neg q]
      have hO := hs (oth + k) (by omega)
      have main : (if A = I sR (oth + k) then F_X11_isAhead_3 a0 x1 x2 x3 x4 f I J R (x + 1) else if I sR (oth + k) ≤ A then (0 : Int32) else 1) = if cd 32 (sfx (fun j => if j = n - 1 then r else (I sR (row + j)).toNatClampNeg) k (n - k)) < cd 32 (sfx (fun j => (I sR (oth + j)).toNatClampNeg) k (n - k)) then 1 else 0 := by
        rw [show n - k = (n - (k + 1)) + 1 by omega]
        simp only [sfx, cd, sfx_len]
        rw [← hAn]
        have la := sfx_lt (Bs := 32) (g := fun j => if j = n - 1 then r else (I sR (row + j)).toNatClampNeg) (n - (k + 1)) (k + 1) (fun j q1 q2 => by
          show (if j = n - 1 then r else (I sR (row + j)).toNatClampNeg) < 32
          by_cases q : j = n - 1
          · rw [if_pos q]; exact br
          · rw [if_neg q]; have := hs (row + j) (by omega); have := nat_of this.1; omega)
        have lb := sfx_lt (Bs := 32) (g := fun j => (I sR (oth + j)).toNatClampNeg) (n - (k + 1)) (k + 1) (fun j q1 q2 => by
          show (I sR (oth + j)).toNatClampNeg < 32
          have := hs (oth + j) (by omega); have := nat_of this.1; omega)
        have na := nat_of hAr.1
        have nb := nat_of hO.1
        by_cases q : A = I sR (oth + k)
        · rw [if_pos q, next, q]
          by_cases z : cd 32 (sfx (fun j => if j = n - 1 then r else (I sR (row + j)).toNatClampNeg) (k + 1) (n - (k + 1))) < cd 32 (sfx (fun j => (I sR (oth + j)).toNatClampNeg) (k + 1) (n - (k + 1)))
          · rw [if_pos z, if_pos (by omega)]
          · rw [if_neg z, if_neg (by omega)]
        · rw [if_neg q]
          have ne := Rg_ne q
          by_cases z : I sR (oth + k) ≤ A
          · have := Rg_le z
            rw [if_pos z, if_neg]
            have lt : (I sR (oth + k)).toNatClampNeg + 1 ≤ A.toNatClampNeg := by omega
            have := Nat.mul_le_mul_right (32 ^ (n - (k + 1))) lt
            rw [Nat.add_mul, Nat.one_mul] at this
            omega
          · have := Rg_nle z
            rw [if_neg z, if_pos]
            have lt : A.toNatClampNeg + 1 ≤ (I sR (oth + k)).toNatClampNeg := by omega
            have := Nat.mul_le_mul_right (32 ^ (n - (k + 1))) lt
            rw [Nat.add_mul, Nat.one_mul] at this
            omega
      rw [← main, hA]
      simp only [ek]
      by_cases q : k = n - 1
      · simp only [if_pos q]
      · simp only [if_neg q]
theorem ahead {a0 sR : Nat} {x1 x2 x3 x4 : Int32} {I : hI} {J : hJ} {R : hR} {row oth n r : Nat} (v : R a0 36 = some sR) (h1 : x1.toInt = row) (h2 : x2.toInt = r) (h3 : x3.toInt = oth) (h4 : x4.toInt = n) (b1 : row ≤ 288) (b3 : oth ≤ 288) (b4 : n ≤ 6) (br : r < 32) (hs : ∀ q, q < 294 → 0 ≤ (I sR q).toInt ∧ (I sR q).toInt < 32) :
    F_X11_isAhead a0 x1 x2 x3 x4 I J R = if cd 32 (sfx (fun j => if j = n - 1 then r else (I sR (row + j)).toNatClampNeg) 0 n) < cd 32 (sfx (fun j => (I sR (oth + j)).toNatClampNeg) 0 n) then 1 else 0 := by
  have := ahead_l (J := J) v h1 h2 h3 h4 b1 b3 b4 br hs 7 0 0 (by decide) (by omega) (by omega)
  exact this
def Lv (I : hI) (sc n v : Nat) : Int := (I sc (7 * n + v)).toInt
def Rv (I : hI) (sR n v : Nat) : List Nat := sfx (fun k => (I sR (6 * (7 * n + v) + k)).toNatClampNeg) 0 n
section MT
variable {mo sc sR : Nat} {J : hJ} {R : hR} {x1 : Int32}
/-- copying a row and its last rule -/
theorem copy_l (v36 : R mo 36 = some sR) {n r to row : Nat} {xn xr x5 x6 : Int32} {k33 : hI → hJ → hR → Int32 → hU} {k41 : hI → hJ → hR → Int32 → hU} (hn : xn.toInt = n) (h1n : 1 ≤ n) (hn6 : n ≤ 6) (h5 : x5.toInt = to) (h6 : x6.toInt = row) (bt : to < 49) (br : row ≤ 288) (dj : row + 6 ≤ 6 * to) {I0 : hI} :
    ∀ (f p : Nat) (x : Int32) (I : hI), x.toInt = p → p ≤ n - 1 → n - 1 < f + p → (∀ c, c ≠ sR → I c = I0 c) → (∀ q, I sR q = if 6 * to ≤ q ∧ q < 6 * to + p then I0 sR (row + (q - 6 * to)) else I0 sR q) →
    ∃ I1, F_X11_turningsFrom_191 mo x1 xn xr k33 k41 f I J R x5 x6 x = k41 I1 J R (xr + 1) ∧ (∀ c, c ≠ sR → I1 c = I0 c) ∧ ∀ q, I1 sR q = if 6 * to ≤ q ∧ q < 6 * to + (n - 1) then I0 sR (row + (q - 6 * to)) else if q = 6 * to + (n - 1) then xr else I0 sR q := by
  intro f
  induction f with
  | zero => intro p x I _ q1 q2; omega
  | succ f ih =>
    intro p x I hx hp hf hc hI
    rw [F_X11_turningsFrom_191_s]
    simp only [B_X11_turningsFrom_191, F_X11_turningsFrom_243, nm, v36, Option.getD_some]
    have hn1 := isub hn cI1 (by omega) (by omega)
    have m6 := imul (x := 6) (y := x5) cI6 h5 (by omega) (by omega)
    by_cases e : p = n - 1
    · rw [if_pos (by rw [ile, hx, hn1]; omega)]
      have i1 : (6 * x5 + xn - 1).toNatClampNeg = 6 * to + (n - 1) := clamp_toInt (by rw [isub (iadd m6 hn (by omega) (by omega)) cI1 (by omega) (by omega)]; omega)
      rw [i1]
      refine ⟨_, rfl, fun c h => by rw [u2_ne h, hc c h], fun q => ?_⟩
      by_cases z : q = 6 * to + (n - 1)
      · rw [if_neg (by omega), if_pos z, z, u2_at]
      · rw [u2_nk z, hI q, if_neg z, e]
    · rw [if_neg (by rw [ile, hx, hn1]; omega)]
      have i1 : (6 * x5 + x).toNatClampNeg = 6 * to + p := clamp_toInt (by rw [iadd m6 hx (by omega) (by omega)]; omega)
      have i2 : (x6 + x).toNatClampNeg = row + p := clamp_toInt (by rw [iadd h6 hx (by omega) (by omega)]; omega)
      rw [i1, i2]
      refine ih (p + 1) (x + 1) (u2 I sR (6 * to + p) (I sR (row + p))) (by rw [add1 (b := 6) (by omega) (by omega), hx]; omega) (by omega) (by omega) (fun c h => by rw [u2_ne h, hc c h]) (fun q => ?_)
      by_cases z : q = 6 * to + p
      · subst z
        rw [u2_at, hI (row + p), if_neg (by omega), if_pos (by omega), show 6 * to + p - 6 * to = p by omega]
      · rw [u2_nk z, hI q]
        by_cases z2 : 6 * to ≤ q ∧ q < 6 * to + p
        · rw [if_pos z2, if_pos (by omega)]
        · rw [if_neg z2, if_neg (by omega)]
end MT
def pm (I : hI) (mo mi e : Nat) : Prop := (e : Int) < (I mo 1).toInt ∧ (I mi e).toInt ≠ 0
def RlM (I : hI) (mo mf mt mc : Nat) : Prop := (0 ≤ (I mo 1).toInt ∧ (I mo 1).toInt ≤ 32) ∧ ∀ e, e < 32 → (0 ≤ (I mf e).toInt ∧ (I mf e).toInt ≤ 6) ∧ (0 ≤ (I mt e).toInt ∧ (I mt e).toInt ≤ 6) ∧ (0 ≤ (I mc e).toInt ∧ (I mc e).toInt ≤ 50)
section MT2
variable {mo sc sR mf mt mc mi : Nat} {J : hJ} {R : hR} {x1 : Int32}
theorem rules_l (v35 : R mo 35 = some sc) (v36 : R mo 36 = some sR) (v2 : R mo 2 = some mf) (v3 : R mo 3 = some mt) (v4 : R mo 4 = some mc) (v7 : R mo 7 = some mi) (n1 : mo ≠ sc) (n2 : mo ≠ sR) (n3 : mf ≠ sc) (n4 : mf ≠ sR) (n5 : mt ≠ sc) (n6 : mt ≠ sR) (n7 : mc ≠ sc) (n8 : mc ≠ sR) (n9 : mi ≠ sc) (n10 : mi ≠ sR) (nn : sc ≠ sR)
    {m : Nat} {xn : Int32} (hn : xn.toInt = ((m + 1 : Nat) : Int)) (hm : m ≤ 5) {K : hI → hJ → hR → Int32 → hU} {I0 : hI} (hr : RlM I0 mo mf mt mc) (hs0 : ∀ v, v < 7 → Lv I0 sc m v = 1000000 ∨ (0 ≤ Lv I0 sc m v ∧ Lv I0 sc m v ≤ 50 * m)) :
    ∀ (f p : Nat) (x : Int32) (I : hI), x.toInt = p → (p : Int) ≤ (I0 mo 1).toInt → (I0 mo 1).toInt < f + p → (∀ c, c ≠ sc → c ≠ sR → I c = I0 c) → (∀ q, (q < 7 * (m + 1) ∨ 7 * (m + 1) + 7 ≤ q) → I sc q = I0 sc q) → (∀ q, (q < 42 * (m + 1) ∨ 42 * (m + 1) + 42 ≤ q) → I sR q = I0 sR q) → (∀ q, q < 294 → 0 ≤ (I sR q).toInt ∧ (I sR q).toInt < 32) →
      (∀ v, v < 7 → Lv I sc (m + 1) v = 1000000 ∨ (0 ≤ Lv I sc (m + 1) v ∧ Lv I sc (m + 1) v ≤ 50 * (m + 1))) → Stpp 7 32 p 1000000 (sr I0 mf) (sr I0 mt) (cs I0 mc) (pm I0 mo mi) (Lv I0 sc m) (Rv I0 sR m) (Lv I sc (m + 1)) (Rv I sR (m + 1)) →
      ∃ I1, F_X11_turningsFrom_41 mo x1 xn K f I J R x = K I1 J R (xn + 1) ∧ (∀ c, c ≠ sc → c ≠ sR → I1 c = I0 c) ∧ (∀ q, (q < 7 * (m + 1) ∨ 7 * (m + 1) + 7 ≤ q) → I1 sc q = I0 sc q) ∧ (∀ q, (q < 42 * (m + 1) ∨ 42 * (m + 1) + 42 ≤ q) → I1 sR q = I0 sR q) ∧ (∀ q, q < 294 → 0 ≤ (I1 sR q).toInt ∧ (I1 sR q).toInt < 32) ∧
        (∀ v, v < 7 → Lv I1 sc (m + 1) v = 1000000 ∨ (0 ≤ Lv I1 sc (m + 1) v ∧ Lv I1 sc (m + 1) v ≤ 50 * (m + 1))) ∧ Stpp 7 32 (I0 mo 1).toNatClampNeg 1000000 (sr I0 mf) (sr I0 mt) (cs I0 mc) (pm I0 mo mi) (Lv I0 sc m) (Rv I0 sR m) (Lv I1 sc (m + 1)) (Rv I1 sR (m + 1)) := by
  intro f
  induction f with
  | zero => intro p x I _ q1 q2; omega
  | succ f ih =>
    intro p x I hx hp hf hc hsc hsR hdg hlv hst
    rw [F_X11_turningsFrom_41_s]
    simp only [B_X11_turningsFrom_41, nm, v35, v2, v3, v4, v7, Option.getD_some, hc mo n1 n2, hc mf n3 n4, hc mt n5 n6, hc mc n7 n8, hc mi n9 n10, clamp_toInt hx]
    by_cases e : (p : Int) = (I0 mo 1).toInt
    · rw [if_pos (by rw [ile, hx]; omega)]
      refine ⟨I, rfl, hc, hsc, hsR, hdg, hlv, ?_⟩
      rw [show (I0 mo 1).toNatClampNeg = p from clamp_toInt e.symm]
      exact hst
    · rw [if_neg (by rw [ile, hx]; omega)]
      have hp32 : p < 32 := by have := hr.1.2; omega
      have hx1 : (x + 1).toInt = ((p + 1 : Nat) : Int) := by rw [add1 (b := 32) (by omega) (by omega), hx]; omega
      obtain ⟨r1, r2, r3⟩ := hr.2 p hp32
      have ef : (I0 mf p).toInt = (sr I0 mf p : Nat) := (nat_of r1.1).symm
      have et : (I0 mt p).toInt = (sr I0 mt p : Nat) := (nat_of r2.1).symm
      obtain ⟨a, ha⟩ : ∃ a, a = sr I0 mf p := ⟨_, rfl⟩
      obtain ⟨b, hb⟩ : ∃ b, b = sr I0 mt p := ⟨_, rfl⟩
      rw [← ha] at ef
      rw [← hb] at et
      have ba : a < 7 := by omega
      have bb : b < 7 := by omega
      have hn0 := isub hn cI1 (by omega) (by omega)
      have m7 := imul (x := 7) cI7 hn0 (by omega) (by omega)
      have y76 := iadd m7 ef (by omega) (by omega)
      have i76 : (7 * (xn - 1) + I0 mf p).toNatClampNeg = 7 * m + a := clamp_toInt (by rw [y76]; omega)
      have k7 := imul (x := 7) cI7 hn (by omega) (by omega)
      have y81 := iadd k7 et (by omega) (by omega)
      have i81 : (7 * xn + I0 mt p).toNatClampNeg = 7 * (m + 1) + b := clamp_toInt (by rw [y81]; omega)
      have y86 := imul (x := 6) cI6 y76 (by omega) (by omega)
      have y104 := imul (x := 6) cI6 y81 (by omega) (by omega)
      rw [i76, i81]
      have eb : I sc (7 * m + a) = I0 sc (7 * m + a) := hsc _ (Or.inl (by omega))
      rw [eb]
      have hbef : (I0 sc (7 * m + a)).toInt = Lv I0 sc m a := rfl
      have hcur : (I sc (7 * (m + 1) + b)).toInt = Lv I sc (m + 1) b := rfl
      have skip : (pm I0 mo mi p → Lv I0 sc m a < 1000000 → Lv I sc (m + 1) b ≤ Lv I0 sc m a + cs I0 mc p ∧ (Lv I sc (m + 1) b = Lv I0 sc m a + cs I0 mc p → cd 32 (Rv I sR (m + 1) b) ≤ cd 32 (Rv I0 sR m a ++ [p]))) →
          Stpp 7 32 (p + 1) 1000000 (sr I0 mf) (sr I0 mt) (cs I0 mc) (pm I0 mo mi) (Lv I0 sc m) (Rv I0 sR m) (Lv I sc (m + 1)) (Rv I sR (m + 1)) := fun hsk v hv => by
        obtain ⟨t1, t2⟩ := hst v hv
        refine ⟨t1.imp id (fun ⟨e, q1, q⟩ => ⟨e, by omega, q⟩), fun e he hpe hd hlt => ?_⟩
        by_cases z : e = p
        · subst z
          rw [← hb] at hd
          rw [← ha] at hlt ⊢
          subst hd
          exact hsk hpe hlt
        · exact t2 e (by omega) hpe hd hlt
      have go := fun hsk => ih (p + 1) (x + 1) I hx1 (by omega) (by omega) hc hsc hsR hdg hlv (skip hsk)
      simp only [F_X11_turningsFrom_171, F_X11_turningsFrom_167, F_X11_turningsFrom_172, F_X11_turningsFrom_243, nm, v35, Option.getD_some, if_pos, if_neg (show ¬ ((1 : Int32) = 0) by decide), i81]
      by_cases hi : I0 mi p = 0
      · rw [if_pos hi]
        exact go (fun h => absurd (by rw [hi]; decide) h.2)
      · rw [if_neg hi]
        have hpm : pm I0 mo mi p := ⟨by omega, fun h => hi (eq0.mpr h)⟩
        have cF : Int32.toInt 1000000 = 1000000 := by decide
        by_cases hF : (1000000 : Int32) ≤ I0 sc (7 * m + a)
        · rw [if_pos hF]
          have := Rg_le hF
          rw [cF, hbef] at this
          exact go (fun _ h => by omega)
        · rw [if_neg hF]
          have hlt := Rg_nle hF
          rw [cF, hbef] at hlt
          have hb1 : 0 ≤ Lv I0 sc m a ∧ Lv I0 sc m a ≤ 50 * m := (hs0 a ba).resolve_left (by omega)
          have hcs : (I0 mc p).toInt = cs I0 mc p := rfl
          have hcr : 0 ≤ cs I0 mc p ∧ cs I0 mc p ≤ 50 := r3
          have y89 : (I0 sc (7 * m + a) + I0 mc p).toInt = Lv I0 sc m a + cs I0 mc p := iadd hbef hcs (by omega) (by omega)
          -- the row is taken
          have take : (Lv I0 sc m a + cs I0 mc p < Lv I sc (m + 1) b ∨ (Lv I0 sc m a + cs I0 mc p = Lv I sc (m + 1) b ∧ cd 32 (Rv I0 sR m a ++ [p]) < cd 32 (Rv I sR (m + 1) b))) →
              ∃ I1, F_X11_turningsFrom_191 mo x1 xn x K (F_X11_turningsFrom_41 mo x1 xn K f) ((5 - (0 : Int32).toInt).toNat + 1) (u2 I sc (7 * (m + 1) + b) (I0 sc (7 * m + a) + I0 mc p)) J R (7 * xn + I0 mt p) (6 * (7 * (xn - 1) + I0 mf p)) 0 = K I1 J R (xn + 1) ∧ (∀ c, c ≠ sc → c ≠ sR → I1 c = I0 c) ∧ (∀ q, (q < 7 * (m + 1) ∨ 7 * (m + 1) + 7 ≤ q) → I1 sc q = I0 sc q) ∧ (∀ q, (q < 42 * (m + 1) ∨ 42 * (m + 1) + 42 ≤ q) → I1 sR q = I0 sR q) ∧ (∀ q, q < 294 → 0 ≤ (I1 sR q).toInt ∧ (I1 sR q).toInt < 32) ∧
                (∀ v, v < 7 → Lv I1 sc (m + 1) v = 1000000 ∨ (0 ≤ Lv I1 sc (m + 1) v ∧ Lv I1 sc (m + 1) v ≤ 50 * (m + 1))) ∧ Stpp 7 32 (I0 mo 1).toNatClampNeg 1000000 (sr I0 mf) (sr I0 mt) (cs I0 mc) (pm I0 mo mi) (Lv I0 sc m) (Rv I0 sR m) (Lv I1 sc (m + 1)) (Rv I1 sR (m + 1)) := fun htk => by
            obtain ⟨I1, c1, c2, c3⟩ := copy_l (mo := mo) (J := J) (R := R) (x1 := x1) (xr := x) (k33 := K) (k41 := F_X11_turningsFrom_41 mo x1 xn K f) (n := m + 1) (r := p) (to := 7 * (m + 1) + b) (row := 6 * (7 * m + a)) v36 hn (by omega) (by omega) (show (7 * xn + I0 mt p).toInt = ((7 * (m + 1) + b : Nat) : Int) by rw [y81]; omega) (show (6 * (7 * (xn - 1) + I0 mf p)).toInt = ((6 * (7 * m + a) : Nat) : Int) by rw [y86]; omega) (by omega) (by omega) (by omega) (I0 := u2 I sc (7 * (m + 1) + b) (I0 sc (7 * m + a) + I0 mc p)) 6 0 0 (u2 I sc (7 * (m + 1) + b) (I0 sc (7 * m + a) + I0 mc p)) (by decide) (by omega) (by omega) (fun _ _ => rfl) (fun q => by rw [if_neg (by omega)])
            have k1 : ∀ c, c ≠ sc → c ≠ sR → I1 c = I0 c := fun c h1 h2 => by rw [c2 c h2, u2_ne h1, hc c h1 h2]
            have k2 : I1 sc = u2 I sc (7 * (m + 1) + b) (I0 sc (7 * m + a) + I0 mc p) sc := c2 sc nn
            have k3 : ∀ q, I1 sR q = if 6 * (7 * (m + 1) + b) ≤ q ∧ q < 6 * (7 * (m + 1) + b) + m then I sR (6 * (7 * m + a) + (q - 6 * (7 * (m + 1) + b))) else if q = 6 * (7 * (m + 1) + b) + m then x else I sR q := fun q => by
              have := c3 q
              rw [u2_ne (fun h => nn h.symm)] at this
              exact this
            have l1 : ∀ v, Lv I1 sc (m + 1) v = if v = b then Lv I0 sc m a + cs I0 mc p else Lv I sc (m + 1) v := fun v => by
              unfold Lv
              rw [k2]
              by_cases z : v = b
              · rw [if_pos z, z, u2_at, y89]; rfl
              · rw [if_neg z, u2_nk (by omega)]
            have l2 : ∀ v, v < 7 → Rv I1 sR (m + 1) v = if v = b then Rv I0 sR m a ++ [p] else Rv I sR (m + 1) v := fun v hv => by
              by_cases z : v = b
              · rw [if_pos z, z]
                unfold Rv
                rw [sfx_snoc]
                congr 1
                · refine sfx_congr _ _ (fun j q1 q2 => ?_)
                  show (I1 sR _).toNatClampNeg = (I0 sR _).toNatClampNeg
                  rw [k3, if_pos (by omega), show 6 * (7 * m + a) + (6 * (7 * (m + 1) + b) + j - 6 * (7 * (m + 1) + b)) = 6 * (7 * m + a) + j by omega, hsR _ (Or.inl (by omega))]
                · show [(I1 sR _).toNatClampNeg] = [p]
                  rw [k3, if_neg (by omega), if_pos (by omega), clamp_toInt hx]
              · rw [if_neg z]
                unfold Rv
                refine sfx_congr _ _ (fun j q1 q2 => ?_)
                show (I1 sR _).toNatClampNeg = (I sR _).toNatClampNeg
                rw [k3, if_neg (by omega), if_neg (by omega)]
            rw [show ((5 - Int32.toInt 0).toNat + 1) = 6 by decide]
            rw [c1]
            refine ih (p + 1) (x + 1) I1 hx1 (by omega) (by omega) k1 (fun q hq => by rw [k2, u2_nk (by omega)]; exact hsc q hq) (fun q hq => by rw [k3, if_neg (by omega), if_neg (by omega)]; exact hsR q hq) (fun q hq => ?_) (fun v hv => ?_) (fun v hv => ?_)
            · rw [k3]
              split
              · exact hdg _ (by omega)
              · split
                · rw [hx]; omega
                · exact hdg q hq
            · rw [l1]
              by_cases z : v = b
              · rw [if_pos z]; exact Or.inr ⟨by omega, by omega⟩
              · rw [if_neg z]; exact hlv v hv
            · obtain ⟨t1, t2⟩ := hst v hv
              rw [l1, l2 v hv]
              by_cases z : v = b
              · rw [if_pos z, if_pos z]
                refine ⟨Or.inr ⟨p, by omega, hpm, by rw [← hb]; exact z.symm, by rw [← ha]; exact hlt, by rw [← ha], by rw [← ha]⟩, fun e he hpe hd hle => ?_⟩
                by_cases q : e = p
                · subst q
                  rw [← ha]
                  exact ⟨Int.le_refl _, fun _ => Nat.le_refl _⟩
                · obtain ⟨u1, u2_⟩ := t2 e (by omega) hpe hd hle
                  rw [z] at u1 u2_
                  clear t1 t2 hst
                  refine ⟨by omega, fun h => ?_⟩
                  rcases htk with h1 | ⟨h1, h2⟩
                  · omega
                  · have := u2_ (by omega)
                    omega
              · rw [if_neg z, if_neg z]
                refine ⟨t1.imp id (fun ⟨e, q1, q⟩ => ⟨e, by omega, q⟩), fun e he hpe hd hle => ?_⟩
                by_cases q : e = p
                · subst q
                  exact absurd (by rw [← hd, ← hb]) z
                · exact t2 e (by omega) hpe hd hle
          by_cases hc1 : I0 sc (7 * m + a) + I0 mc p < I sc (7 * (m + 1) + b)
          · rw [if_pos hc1]
            have := Rg_lt hc1
            rw [y89, hcur] at this
            exact take (Or.inl this)
          · rw [if_neg hc1]
            have h1 := Rg_nlt hc1
            rw [y89, hcur] at h1
            by_cases hc2 : I0 sc (7 * m + a) + I0 mc p = I sc (7 * (m + 1) + b)
            · rw [if_pos hc2]
              have h2 : Lv I0 sc m a + cs I0 mc p = Lv I sc (m + 1) b := by rw [← y89, hc2]; rfl
              have ah := ahead (I := I) (J := J) (x1 := 6 * (7 * (xn - 1) + I0 mf p)) (x2 := x) (x3 := 6 * (7 * xn + I0 mt p)) (x4 := xn) (row := 6 * (7 * m + a)) (oth := 6 * (7 * (m + 1) + b)) (n := m + 1) (r := p) v36 (by rw [y86]; omega) hx (by rw [y104]; omega) hn (by omega) (by omega) (by omega) hp32 hdg
              have ea : sfx (fun j => if j = m + 1 - 1 then p else (I sR (6 * (7 * m + a) + j)).toNatClampNeg) 0 (m + 1) = Rv I0 sR m a ++ [p] := by
                unfold Rv
                rw [sfx_snoc]
                congr 1
                · refine sfx_congr _ _ (fun j q1 q2 => ?_)
                  show (if j = m + 1 - 1 then p else (I sR _).toNatClampNeg) = (I0 sR _).toNatClampNeg
                  rw [if_neg (by omega), hsR _ (Or.inl (by omega))]
                · show [if 0 + m = m + 1 - 1 then p else _] = [p]
                  rw [if_pos (by omega)]
              rw [ea] at ah
              have eo : sfx (fun j => (I sR (6 * (7 * (m + 1) + b) + j)).toNatClampNeg) 0 (m + 1) = Rv I sR (m + 1) b := rfl
              rw [eo] at ah
              rw [ah]
              by_cases z : cd 32 (Rv I0 sR m a ++ [p]) < cd 32 (Rv I sR (m + 1) b)
              · rw [if_pos z, if_neg (show ¬ ((1 : Int32) = 0) by decide)]
                exact take (Or.inr ⟨h2, z⟩)
              · rw [if_neg z, if_pos rfl]
                exact go (fun _ _ => ⟨by omega, fun _ => by omega⟩)
            · rw [if_neg hc2]
              have h2 := Rg_ne hc2
              rw [y89, hcur] at h2
              exact go (fun _ _ => ⟨by omega, fun h => by omega⟩)
end MT2
