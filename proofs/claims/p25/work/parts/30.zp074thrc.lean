section THR
variable {L : List Nat} {C : Nat → Nat} {x mo : Nat} {I I1 K : hI} {J J1 : hJ} {R R1 : hR} {fi t p sh ru w al pa co ct : Nat}
theorem thrC (uq : Uq L C) (mx : x ∈ L) (kx : C x = 10) (mm : mo ∈ L) (km : C mo = 11) (oI : OkI L C I) (oR : OkR L C R) (rel : RF L C x mo (I, J, R)) (cl : ClF L C x R fi t p sh ru w al pa co ct) {kc ch kp : Nat} (v8 : At L C R x 8 kc 1) (v2 : R kc 2 = some fi) (v5 : At L C R kc 5 ch 51) (v6 : At L C R kc 6 kp 52) {wy fc : Nat} (a5 : At L C R x 5 wy 9) (afc : At L C R wy 6 fc 47) {tg : Nat → Nat} {s0 j0 n : Nat} (hn : n ≤ 9) {I0 : hI} (hfc : ∀ k, k < n → 0 ≤ (I0 fc (n - 1 - k)).toInt ∧ (I0 fc (n - 1 - k)).toInt ≤ 9 ∧ tg k = 10 + (I0 fc (n - 1 - k)).toNatClampNeg) {x1 x2 x3 x4 : Int32} {b1 : Nat} :
    ∀ (r f k : Nat) (x5 : Int32) (Ia : hI) (R' : hR), k + r = n → r < f → x5.toInt = (n : Int) - 1 - (k : Int) → LkC L C fi sh kc ch kp I J R tg s0 j0 k Ia R' → (∀ z, Wz C z → Ia z = I0 z) →
      (∃ m Ib Rb Ic, m < n ∧ LkC L C fi sh kc ch kp I J R tg s0 j0 m Ib Rb ∧ runL fi sh I J R tg s0 j0 (m + 1) = none ∧ F_X10_through_92 x x1 x2 x3 x4 b1 f Ia J R' x5 = (-6, (Ic, J, Rb)) ∧ (∀ z r, C z = r → r ∉ exC → Ic z = I z) ∧ ∀ z, Wz C z → Ic z = I0 z) ∨ (∃ Ib Rb, LkC L C fi sh kc ch kp I J R tg s0 j0 n Ib Rb ∧ (∀ z, Wz C z → Ib z = I0 z) ∧ F_X10_through_92 x x1 x2 x3 x4 b1 f Ia J R' x5 = F_X10_finish x x1 Ib J Rb) := by
  have kk := v8.2.1
  intro r
  induction r with
  | zero =>
    intro f k x5 Ia R' hk hf hx h hW
    obtain ⟨f', rfl⟩ : ∃ f', f = f' + 1 := ⟨f - 1, by omega⟩
    obtain rfl : k = n := by omega
    refine Or.inr ⟨Ia, R', h, hW, ?_⟩
    have hz : x5 < 0 := by rw [ilt, hx, cI0]; omega
    have e := thrZ (x := x) (b1 := b1) (x1 := x1) (x2 := x2) (x3 := x3) (x4 := x4) (k := F_X10_through_92 x x1 x2 x3 x4 b1 f') (I := Ia) (J := J) (R := R') hz
    have e2 := F_X10_through_92_s (a0 := x) (b1 := b1) (x1 := x1) (x2 := x2) (x3 := x3) (x4 := x4) (n := f') (I_92 := Ia) (J_92 := J) (R_92 := R') (x5_92 := x5)
    exact Eq.trans e2 e
  | succ r ih =>
    intro f k x5 Ia R' hk hf hx h hW
    obtain ⟨f', rfl⟩ : ∃ f', f = f' + 1 := ⟨f - 1, by omega⟩
    have hkn : k < n := by omega
    have hk10 : k < 10 := by omega
    have hxn : ¬ x5 < 0 := neg_k hx hkn
    obtain ⟨hF, hR, -⟩ := id h
    have e8 : R' x 8 = some kc := (hR x 8 (by rw [kx]; decide)).trans v8.2.2
    have e4 : R' x 4 = some sh := (hR x 4 (by rw [kx]; decide)).trans cl.2.2.2.1.2.2
    have e5 : R' x 5 = some wy := (hR x 5 (by rw [kx]; decide)).trans a5.2.2
    have e6 : R' wy 6 = some fc := (hR wy 6 (by rw [a5.2.1]; decide)).trans afc.2.2
    have hxN : x5.toNatClampNeg = n - 1 - k := clamp_toInt (by omega)
    obtain ⟨w1, w2, w3⟩ := hfc k (by omega)
    have nw := nat_of w1
    have i10 : (10 + I0 fc (n - 1 - k)).toNatClampNeg = tg k := by rw [w3]; exact tenN ⟨w1, w2⟩
    have es : (R' sh (tg k)).getD 0 = shpC sh R (tg k) := by rw [hR sh _ (by rw [cl.2.2.2.1.2.1]; decide)]; rfl
    have hIa : Ia fc = I0 fc := hW fc (Or.inr (Or.inr afc.2.1))
    have hsn : (10 + Ia fc x5.toNatClampNeg).toNatClampNeg = tg k := by rw [hIa, hxN]; exact i10
    rcases LkC.step uq mx kx mm km oI oR rel cl kk v2 v5 v6 hk10 (show tg k < 20 by omega) h with ⟨z1, Ic, z2, z3, z4⟩ | ⟨I1, R1, z2, z3, z4⟩
    · have e9 := thrV0 (x := x) (b1 := b1) (x1 := x1) (x2 := x2) (x3 := x3) (x4 := x4) (f := f') hxn e8 e4 e5 e6 hsn es z2
      exact Or.inl ⟨k, Ia, R', Ic, hkn, h, z1, e9, z3, fun z hz => (z4 z hz).trans (hW z hz)⟩
    · have e9 := thrV1 (x := x) (b1 := b1) (x1 := x1) (x2 := x2) (x3 := x3) (x4 := x4) (f := f') hxn e8 e4 e5 e6 hsn es z2
      rw [e9]
      exact ih f' (k + 1) (x5 + -1) I1 R1 (by omega) (by omega) (dec_k hx hkn hn) z3 (fun z hz => (z4 z hz).trans (hW z hz))
end THR
