/-! int arithmetic that stays in range -/
theorem iadd {x y : Int32} {a b : Int} (hx : x.toInt = a) (hy : y.toInt = b) (h1 : -2147483648 ≤ a + b) (h2 : a + b ≤ 2147483647) : (x + y).toInt = a + b := by
  rw [Int32.toInt_add, hx, hy]
  exact rg_bmod (by omega) (by omega)
theorem isub {x y : Int32} {a b : Int} (hx : x.toInt = a) (hy : y.toInt = b) (h1 : -2147483648 ≤ a - b) (h2 : a - b ≤ 2147483647) : (x - y).toInt = a - b := by
  rw [Int32.toInt_sub, hx, hy]
  exact rg_bmod (by omega) (by omega)
theorem imul {x y : Int32} {a b : Int} (hx : x.toInt = a) (hy : y.toInt = b) (h1 : -2147483648 ≤ a * b) (h2 : a * b ≤ 2147483647) : (x * y).toInt = a * b := by
  rw [Int32.toInt_mul, hx, hy]
  exact rg_bmod (by omega) (by omega)
theorem idiv {x y : Int32} {a b : Nat} (hx : x.toInt = a) (hy : y.toInt = b) (hb : 0 < b) : (x / y).toInt = ((a / b : Nat) : Int) := by
  have := (Rg_div (x := x) (y := y) (a := a) (b := a) (d := b) (a' := ((a : Int) / b)) (b' := ((a : Int) / b)) ⟨by omega, by omega⟩ ⟨by omega, by omega⟩ ⟨⟨by omega, by omega⟩, Int.le_refl _, Int.le_refl _⟩).1
  rw [this, hx, hy]
  rfl
theorem irem {x y : Int32} {a b : Nat} (hx : x.toInt = a) (hy : y.toInt = b) (hb : 0 < b) : (x - x / y * y).toInt = ((a % b : Nat) : Int) := by
  have := (Rg_rem (x := x) (y := y) (a := a) (b := a) (d := b) (b' := b) ⟨by omega, by omega⟩ ⟨by omega, by omega⟩ ⟨⟨by omega, by omega⟩, by omega⟩).1
  rw [this, hx, hy]
  rfl
theorem ieq {x y : Int32} : (x = y) = (x.toInt = y.toInt) := propext Int32.toInt_inj.symm
theorem ile {x y : Int32} : (x ≤ y) = (x.toInt ≤ y.toInt) := propext Int32.le_iff_toInt_le
theorem ilt {x y : Int32} : (x < y) = (x.toInt < y.toInt) := propext Int32.lt_iff_toInt_lt
/-- an index of a square table -/
theorem idx2 {x y : Int32} {i j n : Nat} {c : Int32} (hx : x.toInt = i) (hy : y.toInt = j) (hc : c.toInt = n) (h : (i * n + j : Nat) ≤ 2147483647) : (x * c + y).toNatClampNeg = i * n + j := by
  have h0 : ((i * n : Nat) : Int) ≤ 2147483647 := by omega
  have h1 : (x * c).toInt = (i : Int) * n := imul hx hc (by rw [← Int.natCast_mul]; omega) (by rw [← Int.natCast_mul]; exact h0)
  have h2 := iadd h1 hy (by rw [← Int.natCast_mul]; omega) (by rw [← Int.natCast_mul]; omega)
  exact clamp_toInt (by rw [h2]; push_cast; rfl)
theorem idx2' {x y : Int32} {i j n : Nat} {c : Int32} (hx : x.toInt = i) (hy : y.toInt = j) (hc : c.toInt = n) (h : (n * i + j : Nat) ≤ 2147483647) : (c * x + y).toNatClampNeg = n * i + j := by
  have h0 : ((n * i : Nat) : Int) ≤ 2147483647 := by omega
  have h1 : (c * x).toInt = (n : Int) * i := imul hc hx (by rw [← Int.natCast_mul]; omega) (by rw [← Int.natCast_mul]; exact h0)
  have h2 := iadd h1 hy (by rw [← Int.natCast_mul]; omega) (by rw [← Int.natCast_mul]; omega)
  exact clamp_toInt (by rw [h2]; push_cast; rfl)
