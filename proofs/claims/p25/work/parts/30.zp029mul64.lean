/-! 64 bits as integers -/
theorem bm64 (x : Int) : ∃ q : Int, x.bmod (2 ^ 64) = x - q * 18446744073709551616 ∧ -9223372036854775808 ≤ x.bmod (2 ^ 64) ∧ x.bmod (2 ^ 64) < 9223372036854775808 := by
  have h := Int.bmod_def x (2 ^ 64)
  rw [show (((2 : Nat) ^ 64 : Nat) : Int) = 18446744073709551616 by decide] at h
  by_cases c : x % 18446744073709551616 < (18446744073709551616 + 1) / 2
  · rw [if_pos c] at h
    rw [h]
    exact ⟨x / 18446744073709551616, by omega, by omega, by omega⟩
  · rw [if_neg c] at h
    rw [h]
    exact ⟨x / 18446744073709551616 + 1, by omega, by omega, by omega⟩
theorem jadd (a b : Int64) : ∃ q : Int, (a + b).toInt = a.toInt + b.toInt - q * 18446744073709551616 ∧ -9223372036854775808 ≤ (a + b).toInt ∧ (a + b).toInt < 9223372036854775808 := by
  rw [Int64.toInt_add]
  exact bm64 _
theorem jmul (a b : Int64) : ∃ q : Int, (a * b).toInt = a.toInt * b.toInt - q * 18446744073709551616 ∧ -9223372036854775808 ≤ (a * b).toInt ∧ (a * b).toInt < 9223372036854775808 := by
  rw [Int64.toInt_mul]
  exact bm64 _
theorem jrg (a : Int64) : -9223372036854775808 ≤ a.toInt ∧ a.toInt < 9223372036854775808 := by
  have h1 := Int64.le_toInt a
  have h2 := Int64.toInt_lt a
  constructor <;> omega
theorem jaddx {a b : Int64} {p q : Int} (ha : a.toInt = p) (hb : b.toInt = q) (h1 : -9223372036854775808 ≤ p + q) (h2 : p + q < 9223372036854775808) : (a + b).toInt = p + q := by
  obtain ⟨z, e, r1, r2⟩ := jadd a b
  rw [ha, hb] at e
  omega
theorem jmulx {a b : Int64} {p q : Int} (ha : a.toInt = p) (hb : b.toInt = q) (h1 : -9223372036854775808 ≤ p * q) (h2 : p * q < 9223372036854775808) : (a * b).toInt = p * q := by
  obtain ⟨z, e, r1, r2⟩ := jmul a b
  rw [ha, hb] at e
  omega
theorem jsar {x k : Int64} {n : Nat} (h : (k.toBitVec.smod 64).toNat = n) : (x >>> k).toInt = x.toInt / ((2 ^ n : Nat) : Int) := by
  show (x >>> k).toBitVec.toInt = x.toBitVec.toInt / ((2 ^ n : Nat) : Int)
  rw [Int64.toBitVec_shiftRight]
  show (x.toBitVec.sshiftRight (k.toBitVec.smod 64).toNat).toInt = _
  rw [h, BitVec.toInt_sshiftRight, Int.shiftRight_eq_div_pow]
theorem jsr20 (x : Int64) : (x >>> (Int32.toInt64 (20 : Int32) &&& 63)).toInt = x.toInt / 1048576 := jsar (n := 20) (by decide)
theorem jsr32 (x : Int64) : (x >>> (Int32.toInt64 (32 : Int32) &&& 63)).toInt = x.toInt / 4294967296 := jsar (n := 32) (by decide)
theorem jsr63 (x : Int64) : (x >>> (Int32.toInt64 (63 : Int32) &&& 63)).toInt = x.toInt / 9223372036854775808 := jsar (n := 63) (by decide)
theorem jval (x : Int64) : x.toInt = if 2 * x.toBitVec.toNat < 18446744073709551616 then (x.toBitVec.toNat : Int) else (x.toBitVec.toNat : Int) - 18446744073709551616 := BitVec.toInt_eq_toNat_cond x.toBitVec
theorem jand20 (x : Int64) : (x &&& 1048575).toInt = x.toInt % 1048576 := by
  have h : (x &&& 1048575).toBitVec.toNat = x.toBitVec.toNat % 2 ^ 20 := by
    rw [Int64.toBitVec_and, BitVec.toNat_and, show (1048575 : Int64).toBitVec.toNat = 2 ^ 20 - 1 by decide, Nat.and_two_pow_sub_one_eq_mod]
  have e : (2 : Nat) ^ 20 = 1048576 := by decide
  have l : x.toBitVec.toNat < 18446744073709551616 := x.toBitVec.isLt
  rw [e] at h
  rw [jval, jval x, h]
  split <;> split <;> omega
theorem jand32 (x : Int64) : (x &&& 4294967295).toInt = x.toInt % 4294967296 := by
  have h : (x &&& 4294967295).toBitVec.toNat = x.toBitVec.toNat % 2 ^ 32 := by
    rw [Int64.toBitVec_and, BitVec.toNat_and, show (4294967295 : Int64).toBitVec.toNat = 2 ^ 32 - 1 by decide, Nat.and_two_pow_sub_one_eq_mod]
  have e : (2 : Nat) ^ 32 = 4294967296 := by decide
  have l : x.toBitVec.toNat < 18446744073709551616 := x.toBitVec.isLt
  rw [e] at h
  rw [jval, jval x, h]
  split <;> split <;> omega
theorem jushr32 {w : Int64} {p q : Int} (hw : w.toInt = p - q * 18446744073709551616) (h0 : 0 ≤ p) (h1 : p < 18446744073709551616) : ((Int64.toUInt64 w >>> ((Int32.toInt64 (32 : Int32)).toUInt64 &&& Int64.toUInt64 63)).toInt64).toInt = p / 4294967296 := by
  rw [show ((Int32.toInt64 (32 : Int32)).toUInt64 &&& Int64.toUInt64 63) = (32 : UInt64) by decide]
  have h : ((w.toUInt64 >>> (32 : UInt64)).toInt64).toBitVec.toNat = w.toBitVec.toNat / 2 ^ 32 := by
    show (w.toBitVec >>> ((32 : UInt64).toBitVec % 64)).toNat = _
    rw [BitVec.ushiftRight_eq', show ((32 : UInt64).toBitVec % 64).toNat = 32 by decide, BitVec.toNat_ushiftRight, Nat.shiftRight_eq_div_pow]
  have e : (2 : Nat) ^ 32 = 4294967296 := by decide
  have l : w.toBitVec.toNat < 18446744073709551616 := w.toBitVec.isLt
  rw [e] at h
  have v := jval w
  rw [jval, h, if_pos (by omega)]
  split at v <;> omega
/-- bounds of products -/
theorem mulB {a b A B M : Int} (h1 : -A ≤ a) (h2 : a ≤ B) (hA : 0 ≤ A) (hB : 0 ≤ B) (m0 : 0 ≤ b) (m1 : b ≤ M) : -(A * M) ≤ a * b ∧ a * b ≤ B * M := by
  have e1 := Int.mul_le_mul_of_nonneg_right h1 m0
  have e2 := Int.mul_le_mul_of_nonneg_right h2 m0
  have e3 := Int.mul_le_mul_of_nonneg_left m1 hA
  have e4 := Int.mul_le_mul_of_nonneg_left m1 hB
  rw [Int.neg_mul] at e1
  constructor <;> omega
theorem mulC {a b A B : Int} (h1 : -A ≤ a) (h2 : a ≤ A) (h3 : -B ≤ b) (h4 : b ≤ B) : -(A * B) ≤ a * b ∧ a * b ≤ A * B := by
  by_cases hb : 0 ≤ b
  · exact mulB h1 h2 (by omega) (by omega) hb h4
  · have h := mulB (b := -b) (M := B) h1 h2 (by omega) (by omega) (by omega) (by omega)
    rw [Int.mul_neg] at h
    constructor <;> omega
/-- the high half of a product -/
theorem mulHi (x y : Int64) : (F_J9_multiplyHigh_f86c9 x y).toInt = x.toInt * y.toInt / 18446744073709551616 := by
  obtain ⟨x0, hx0⟩ : ∃ t, t = x.toInt % 4294967296 := ⟨_, rfl⟩
  obtain ⟨x1, hx1⟩ : ∃ t, t = x.toInt / 4294967296 := ⟨_, rfl⟩
  obtain ⟨y0, hy0⟩ : ∃ t, t = y.toInt % 4294967296 := ⟨_, rfl⟩
  obtain ⟨y1, hy1⟩ : ∃ t, t = y.toInt / 4294967296 := ⟨_, rfl⟩
  have rx := jrg x
  have ry := jrg y
  have bx0 : 0 ≤ x0 ∧ x0 ≤ 4294967295 := by omega
  have bx1 : -2147483648 ≤ x1 ∧ x1 ≤ 2147483647 := by omega
  have by0 : 0 ≤ y0 ∧ y0 ≤ 4294967295 := by omega
  have by1 : -2147483648 ≤ y1 ∧ y1 ≤ 2147483647 := by omega
  have ex : x.toInt = 4294967296 * x1 + x0 := by omega
  have ey : y.toInt = 4294967296 * y1 + y0 := by omega
  have hp : x.toInt * y.toInt = 18446744073709551616 * (x1 * y1) + 4294967296 * (x1 * y0) + 4294967296 * (x0 * y1) + x0 * y0 := by
    have a1 : 4294967296 * x1 * (4294967296 * y1) = 18446744073709551616 * (x1 * y1) := by
      rw [Int.mul_assoc, Int.mul_left_comm x1]
      omega
    have a2 : 4294967296 * x1 * y0 = 4294967296 * (x1 * y0) := Int.mul_assoc _ _ _
    have a3 : x0 * (4294967296 * y1) = 4294967296 * (x0 * y1) := Int.mul_left_comm _ _ _
    rw [ex, ey, Int.add_mul, Int.mul_add, Int.mul_add, a1, a2, a3]
    omega
  have b00 := mulB (a := x0) (b := y0) (A := 0) (B := 4294967295) (M := 4294967295) (by omega) bx0.2 (by decide) (by decide) by0.1 by0.2
  have b10 := mulB (a := x1) (b := y0) (A := 2147483648) (B := 2147483647) (M := 4294967295) bx1.1 bx1.2 (by decide) (by decide) by0.1 by0.2
  have b01 := mulB (a := y1) (b := x0) (A := 2147483648) (B := 2147483647) (M := 4294967295) by1.1 by1.2 (by decide) (by decide) bx0.1 bx0.2
  have b11 := mulC (a := x1) (b := y1) (A := 2147483648) (B := 2147483648) bx1.1 (by omega) by1.1 (by omega)
  rw [Int.mul_comm y1 x0] at b01
  rw [hp]
  simp only [F_J9_multiplyHigh_f86c9, nm]
  have f1 : (x >>> (Int32.toInt64 (32 : Int32) &&& 63)).toInt = x1 := by rw [jsr32, hx1]
  have f2 : (x &&& 4294967295).toInt = x0 := by rw [jand32, hx0]
  have f3 : (y >>> (Int32.toInt64 (32 : Int32) &&& 63)).toInt = y1 := by rw [jsr32, hy1]
  have f4 : (y &&& 4294967295).toInt = y0 := by rw [jand32, hy0]
  generalize x >>> (Int32.toInt64 (32 : Int32) &&& 63) = w1 at f1 ⊢
  generalize x &&& 4294967295 = w2 at f2 ⊢
  generalize y >>> (Int32.toInt64 (32 : Int32) &&& 63) = w3 at f3 ⊢
  generalize y &&& 4294967295 = w4 at f4 ⊢
  obtain ⟨q5, f5, -, -⟩ := jmul w2 w4
  rw [f2, f4] at f5
  generalize w2 * w4 = w5 at f5 ⊢
  have f6 : (w1 * w4).toInt = x1 * y0 := jmulx f1 f4 (by omega) (by omega)
  generalize w1 * w4 = w6 at f6 ⊢
  have f7 := jushr32 f5 (by omega) (by omega)
  generalize (Int64.toUInt64 w5 >>> ((Int32.toInt64 (32 : Int32)).toUInt64 &&& Int64.toUInt64 63)).toInt64 = w7 at f7 ⊢
  have f8 := jaddx f6 f7 (by omega) (by omega)
  generalize w6 + w7 = w8 at f8 ⊢
  have f9 := jand32 w8
  generalize w8 &&& 4294967295 = w9 at f9 ⊢
  have f10 := jsr32 w8
  generalize w8 >>> (Int32.toInt64 (32 : Int32) &&& 63) = w10 at f10 ⊢
  rw [f8] at f9 f10
  have f11 : (w2 * w3).toInt = x0 * y1 := jmulx f2 f3 (by omega) (by omega)
  generalize w2 * w3 = w11 at f11 ⊢
  have f12 := jaddx f9 f11 (by omega) (by omega)
  generalize w9 + w11 = w12 at f12 ⊢
  have f13 : (w1 * w3).toInt = x1 * y1 := jmulx f1 f3 (by omega) (by omega)
  generalize w1 * w3 = w13 at f13 ⊢
  have f14 := jaddx f13 f10 (by omega) (by omega)
  generalize w13 + w10 = w14 at f14 ⊢
  have f15 := jsr32 w12
  generalize w12 >>> (Int32.toInt64 (32 : Int32) &&& 63) = w15 at f15 ⊢
  rw [f12] at f15
  have f16 := jaddx f14 f15 (by omega) (by omega)
  rw [f16]
  clear f1 f2 f3 f4 f5 f6 f7 f8 f9 f10 f11 f12 f13 f14 f15 f16 hp ex ey hx0 hx1 hy0 hy1 rx ry bx0 bx1 by0 by1 b10 b01 b11
  generalize x1 * y1 = d at *
  generalize x1 * y0 = b at *
  generalize x0 * y1 = c at *
  generalize x0 * y0 = a at *
  omega
/-- comparing -/
theorem cmpJ {a b : Int64} : ((0 : Int32) ≤ F_J13_compare_74951 a b) = (b.toInt ≤ a.toInt) := by
  simp only [F_J13_compare_74951, F_J13_compare_74951_21, nm]
  by_cases h : (0 : Int32) ≤ lg_cmp a b
  · have g := lc_ge rfl h
    rw [if_pos h]
    by_cases h2 : lg_cmp a b = 0
    · rw [if_pos h2]; exact propext ⟨fun _ => g, fun _ => by decide⟩
    · rw [if_neg h2]; exact propext ⟨fun _ => g, fun _ => by decide⟩
  · have g := lc_nge rfl h
    rw [if_neg h]
    exact propext ⟨fun q => absurd q (by decide), fun q => by omega⟩
def uv (z : Int) : Int := if z < 0 then z + 18446744073709551616 else z
theorem cmpU {a b : Int64} : ((0 : Int32) ≤ F_J13_compareUnsigned_74951 a b) = (uv b.toInt ≤ uv a.toInt) := by
  simp only [F_J13_compareUnsigned_74951, nm, cmpJ]
  obtain ⟨q1, e1, r1, s1⟩ := jadd a (-9223372036854775808)
  obtain ⟨q2, e2, r2, s2⟩ := jadd b (-9223372036854775808)
  have c : Int64.toInt (-9223372036854775808) = -9223372036854775808 := by decide
  rw [c] at e1 e2
  have ra := jrg a
  have rb := jrg b
  unfold uv
  refine propext ⟨fun h => ?_, fun h => ?_⟩
  · split <;> split <;> omega
  · split at h <;> split at h <;> omega
theorem eqJ {a b : Int64} : (lg_cmp a b = 0) = (a.toInt = b.toInt) := propext ⟨fun h => lc_eq rfl h, fun h => by
  by_cases q : lg_cmp a b = 0
  · exact q
  · exact absurd h (lc_ne rfl q)⟩
/-- whether v * by + more is of 64 bits, as the class asks it -/
theorem stays {v : Int64} {y z : Int32} (hy1 : -1000 ≤ y.toInt) (hy2 : y.toInt ≤ 1000) (hz1 : -1000 ≤ z.toInt) (hz2 : z.toInt ≤ 1000) : F_X10_staysIn64 v y z = if -9223372036854775808 ≤ v.toInt * y.toInt + z.toInt ∧ v.toInt * y.toInt + z.toInt < 9223372036854775808 then 1 else 0 := by
  obtain ⟨l, hl⟩ : ∃ t, t = v.toInt % 1048576 := ⟨_, rfl⟩
  obtain ⟨h, hh⟩ : ∃ t, t = v.toInt / 1048576 := ⟨_, rfl⟩
  have rv := jrg v
  have bl : 0 ≤ l ∧ l ≤ 1048575 := by omega
  have bh : -8796093022208 ≤ h ∧ h ≤ 8796093022208 := by omega
  have ev : v.toInt = 1048576 * h + l := by omega
  have hp : v.toInt * y.toInt = 1048576 * (h * y.toInt) + l * y.toInt := by rw [ev, Int.add_mul, Int.mul_assoc]
  have bp := mulC (a := h) (b := y.toInt) (A := 8796093022208) (B := 1000) bh.1 bh.2 hy1 hy2
  have bq := mulC (a := l) (b := y.toInt) (A := 1048576) (B := 1000) (by omega) (by omega) hy1 hy2
  rw [hp]
  simp only [F_X10_staysIn64, F_X10_staysIn64_50, F_X10_staysIn64_51, nm]
  have f1 : (v &&& 1048575).toInt = l := by rw [jand20, hl]
  have f4 : (v >>> (Int32.toInt64 (20 : Int32) &&& 63)).toInt = h := by rw [jsr20, hh]
  generalize v &&& 1048575 = w1 at f1 ⊢
  generalize v >>> (Int32.toInt64 (20 : Int32) &&& 63) = w4 at f4 ⊢
  have ty : (y.toInt64).toInt = y.toInt := Int32.toInt_toInt64 y
  have tz : (z.toInt64).toInt = z.toInt := Int32.toInt_toInt64 z
  generalize y.toInt64 = yl at ty ⊢
  generalize z.toInt64 = zl at tz ⊢
  have f2 := jmulx f1 ty (by omega) (by omega)
  generalize w1 * yl = w2 at f2 ⊢
  have f3 := jaddx f2 tz (by omega) (by omega)
  generalize w2 + zl = w3 at f3 ⊢
  have f5 := jmulx f4 ty (by omega) (by omega)
  generalize w4 * yl = w5 at f5 ⊢
  have f6 := jsr20 w3
  generalize w3 >>> (Int32.toInt64 (20 : Int32) &&& 63) = w6 at f6 ⊢
  rw [f3] at f6
  have f7 := jaddx f5 f6 (by omega) (by omega)
  generalize w5 + w6 = w7 at f7 ⊢
  have k1 : Int64.toInt (-8796093022208) = -8796093022208 := by decide
  have k2 : Int64.toInt 8796093022208 = 8796093022208 := by decide
  clear f1 f2 f3 f4 f5 f6 hp ev hl hh rv
  generalize h * y.toInt = p at *
  generalize l * y.toInt = q at *
  by_cases g1 : lg_cmp w7 (-8796093022208) < 0
  · have := lc_lt rfl g1
    rw [if_pos g1, if_neg (by omega)]
  · have := lc_nlt rfl g1
    rw [if_neg g1]
    by_cases g2 : (0 : Int32) ≤ lg_cmp w7 8796093022208
    · have := lc_ge rfl g2
      rw [if_pos g2, if_neg (by omega)]
    · have := lc_nge rfl g2
      rw [if_neg g2, if_pos (by omega)]
