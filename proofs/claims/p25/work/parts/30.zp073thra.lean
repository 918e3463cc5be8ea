theorem neg_k {x : Int32} {n k : Nat} (hx : x.toInt = (n : Int) - 1 - (k : Int)) (h : k < n) : ¬ x < 0 := by rw [ilt, hx, cI0]; omega
theorem dec_k {x : Int32} {n k : Nat} (hx : x.toInt = (n : Int) - 1 - (k : Int)) (h : k < n) (hn : n ≤ 9) : (x + -1).toInt = (n : Int) - 1 - ((k + 1 : Nat) : Int) := by
  rw [iadd hx (show Int32.toInt (-1) = -1 by decide) (by omega) (by omega)]
  omega
theorem eta4 {p : Int32 × hU} : (p.1, (p.2.1, p.2.2.1, p.2.2.2)) = p := rfl
theorem thrZ {x b1 : Nat} {x1 x2 x3 x4 x5 : Int32} {k : hI → hJ → hR → Int32 → (Int32 × hU)} {I : hI} {J : hJ} {R : hR} (hx : x5 < 0) : B_X10_through_92 x x1 x2 x3 x4 b1 k I J R x5 = F_X10_finish x x1 I J R := by
  unfold B_X10_through_92
  exact (if_pos hx).trans eta4
theorem thrB {x b1 : Nat} {x1 x2 x3 x4 x5 : Int32} {k : hI → hJ → hR → Int32 → (Int32 × hU)} {I : hI} {J : hJ} {R : hR} (hx : ¬ x5 < 0) : B_X10_through_92 x x1 x2 x3 x4 b1 k I J R x5 = nmU (F_X1_link ((R x 8).getD 0) ((R ((R x 4).getD 0) (10 + I ((R ((R x 5).getD 0) 6).getD 0) x5.toNatClampNeg).toNatClampNeg).getD 0) I J R) fun y15 I15 _ R15 => (if y15 = (0 : Int32) then ((-6 : Int32), (I15, J, R15)) else k I15 J R15 (x5 + -1)) := by
  unfold B_X10_through_92
  rw [if_neg hx]
theorem thrV {x kc sh wy fc b1 f b s : Nat} {x1 x2 x3 x4 x5 : Int32} {I : hI} {J : hJ} {R : hR} (hx : ¬ x5 < 0) (e8 : R x 8 = some kc) (e4 : R x 4 = some sh) (e5 : R x 5 = some wy) (e6 : R wy 6 = some fc) (hs : (10 + I fc x5.toNatClampNeg).toNatClampNeg = s) (hb : (R sh s).getD 0 = b) : F_X10_through_92 x x1 x2 x3 x4 b1 (f + 1) I J R x5 = nmU (F_X1_link kc b I J R) fun y15 I15 _ R15 => (if y15 = (0 : Int32) then ((-6 : Int32), (I15, J, R15)) else F_X10_through_92 x x1 x2 x3 x4 b1 f I15 J R15 (x5 + -1)) := by
  rw [F_X10_through_92_s, thrB hx, e8, e4, e5, Option.getD_some, Option.getD_some, Option.getD_some, e6, Option.getD_some, hs, hb]
theorem thrV0 {x kc sh wy fc b1 f b s : Nat} {x1 x2 x3 x4 x5 : Int32} {I Ic : hI} {J : hJ} {R Rc : hR} (hx : ¬ x5 < 0) (e8 : R x 8 = some kc) (e4 : R x 4 = some sh) (e5 : R x 5 = some wy) (e6 : R wy 6 = some fc) (hs : (10 + I fc x5.toNatClampNeg).toNatClampNeg = s) (hb : (R sh s).getD 0 = b) (hl : F_X1_link kc b I J R = (0, (Ic, J, Rc))) : F_X10_through_92 x x1 x2 x3 x4 b1 (f + 1) I J R x5 = (-6, (Ic, J, Rc)) := by
  rw [thrV hx e8 e4 e5 e6 hs hb, hl]
  exact if_pos rfl
theorem thrV1 {x kc sh wy fc b1 f b s : Nat} {x1 x2 x3 x4 x5 : Int32} {I Ic : hI} {J : hJ} {R Rc : hR} (hx : ¬ x5 < 0) (e8 : R x 8 = some kc) (e4 : R x 4 = some sh) (e5 : R x 5 = some wy) (e6 : R wy 6 = some fc) (hs : (10 + I fc x5.toNatClampNeg).toNatClampNeg = s) (hb : (R sh s).getD 0 = b) (hl : F_X1_link kc b I J R = (1, (Ic, J, Rc))) : F_X10_through_92 x x1 x2 x3 x4 b1 (f + 1) I J R x5 = F_X10_through_92 x x1 x2 x3 x4 b1 f Ic J Rc (x5 + -1) := by
  rw [thrV hx e8 e4 e5 e6 hs hb, hl]
  exact if_neg (show ¬ (1 : Int32) = 0 by decide)
theorem thrS {mo : Nat} {x1 x2 x3 x4 y3 y4 x6 : Int32} {k : hI → hJ → hR → Int32 → Int32 → (Int32 × hU)} {I : hI} {J : hJ} {R : hR} (hx : ¬ x6 < 0) : B_X11_through_116 mo x1 x2 x3 x4 y3 y4 k I J R 1 x6 = nmU (F_X11_link mo (10 + I ((R mo 48).getD 0) x6.toNatClampNeg) I J R) fun y36 I36 _ _ => (if y36 = (1 : Int32) then k I36 J R 1 (x6 + -1) else k I36 J R 0 (x6 + -1)) := by
  unfold B_X11_through_116
  show (if x6 < 0 then _ else (if (1 : Int32) = 0 then _ else _)) = _
  rw [if_neg hx, if_neg (show ¬ (1 : Int32) = 0 by decide)]
theorem thrE {mo : Nat} {x1 x2 x3 x4 y3 y4 x6 : Int32} {k : hI → hJ → hR → Int32 → Int32 → (Int32 × hU)} {I : hI} {J : hJ} {R : hR} (hx : x6 < 0) : B_X11_through_116 mo x1 x2 x3 x4 y3 y4 k I J R 1 x6 = finF mo x1 (I ((R mo 22).getD 0) x1.toNatClampNeg) I J R := by
  unfold B_X11_through_116 finF
  show (if x6 < 0 then (if (1 : Int32) = 0 then _ else _) else _) = _
  rw [if_pos hx, if_neg (show ¬ (1 : Int32) = 0 by decide)]
