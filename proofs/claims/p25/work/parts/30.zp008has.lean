theorem hasC {b : Nat} {x2 : Int32} {I : hI} {J : hJ} {R : hR} (h : 0 ≤ (I b 1).toInt) : F_X7_has b x2 I J R = if 0 ≤ x2.toInt ∧ x2.toInt < (I b 1).toInt then 1 else 0 := by
  simp only [F_X7_has, nm, isW, ite11, cI0]
  rw [sub1 (b := 0) h (by omega)]
  by_cases q : 0 ≤ x2.toInt ∧ x2.toInt < (I b 1).toInt
  · rw [if_pos q, if_pos (by omega)]
  · rw [if_neg q, if_neg (by omega)]
theorem hasM {mo mm8 : Nat} {s x2 : Int32} {I : hI} {J : hJ} {R : hR} (v : R mo 8 = some mm8) (h : 0 ≤ (I mm8 s.toNatClampNeg).toInt) : F_X11_isMember mo s x2 I J R = if 0 ≤ x2.toInt ∧ x2.toInt < (I mm8 s.toNatClampNeg).toInt then 1 else 0 := by
  simp only [F_X11_isMember, nm, inM, ite11, Int32.toInt_toInt64, cJ0, v, Option.getD_some]
  rw [sub1 (b := 0) h (by omega)]
  by_cases q : 0 ≤ x2.toInt ∧ x2.toInt < (I mm8 s.toNatClampNeg).toInt
  · rw [if_pos q, if_pos (by omega)]
  · rw [if_neg q, if_neg (by omega)]
theorem e0 {x : Int32} : (x = 0) = (x.toInt = 0) := propext eq0
theorem em1 {x : Int32} : (x = -1) = (x.toInt = -1) := propext ⟨fun h => by rw [h]; decide, fun h => Int32.toInt_inj.mp (by rw [h]; decide)⟩
/-! the members, in the class and in the model -/
/-- a member becomes another, in full -/
theorem become_L {b so fa : Nat} {x1 x2 y9 y3 : Int32} {J : hJ} {R : hR} (vso : R b 3 = some so) (vfa : R b 7 = some fa) (n1 : b ≠ so) (n2 : b ≠ fa) (n3 : so ≠ fa) : ∀ (f n k a : Nat) (I : hI) (rest i : Int32), i.toInt = n → rest.toInt = k → n ≤ 4 → 5 ≤ f + n → dgL f n k = some a → (I b 2).toInt = n →
    ∃ I1, F_X5_become_25 b x1 x2 y9 y3 f I J R rest i = (I1, J, R) ∧ (∀ c, c ≠ b → c ≠ so → c ≠ fa → I1 c = I c) ∧ (∀ q, q ≠ 2 → q ≠ 4 → q ≠ 5 → q ≠ 6 → I1 b q = I b q) ∧ (I1 b 2).toInt = a ∧ I1 b 4 = 0 ∧ I1 b 5 = -1 ∧ I1 b 6 = 0 ∧ (∀ q, q < n → I1 so q = I so q) ∧ (∀ q, n ≤ q → q < a → (I1 so q).toInt = ((k / 8 ^ (q - n) % 8 : Nat) : Int) - 1) ∧ (∀ q, q < 4 → I1 fa q = 1) ∧ n ≤ a ∧ a ≤ 4 := by
  intro f
  induction f with
  | zero => intro n k a I rest i _ _ h1 h2; omega
  | succ f ih =>
    intro n k a I rest i hi hr h1 h2 hd hb
    rw [F_X5_become_25_s]
    simp only [B_X5_become_25, nm, nmW, vso, vfa, Option.getD_some, setW, fill_55]
    have stop : a = n → ∃ I1, (fillF (u2 (u2 (u2 I b 4 0) b 5 (-1)) b 6 0) fa 4 1, J, R) = (I1, J, R) ∧ (∀ c, c ≠ b → c ≠ so → c ≠ fa → I1 c = I c) ∧ (∀ q, q ≠ 2 → q ≠ 4 → q ≠ 5 → q ≠ 6 → I1 b q = I b q) ∧ (I1 b 2).toInt = a ∧ I1 b 4 = 0 ∧ I1 b 5 = -1 ∧ I1 b 6 = 0 ∧ (∀ q, q < n → I1 so q = I so q) ∧ (∀ q, n ≤ q → q < a → (I1 so q).toInt = ((k / 8 ^ (q - n) % 8 : Nat) : Int) - 1) ∧ (∀ q, q < 4 → I1 fa q = 1) ∧ n ≤ a ∧ a ≤ 4 := fun ea => by
      refine ⟨_, rfl, fun c q1 q2 q3 => ?_, fun q q1 q2 q3 q4 => ?_, ?_, ?_, ?_, ?_, fun q hq => ?_, fun q q1 q2 => by omega, fun q hq => fillF_at hq, by omega, by omega⟩
      · rw [fillF_ne q3, u2_ne q1, u2_ne q1, u2_ne q1]
      · rw [fillF_ne n2, u2_nk q4, u2_nk q3, u2_nk q2]
      · rw [fillF_ne n2, u2_nk (by decide), u2_nk (by decide), u2_nk (by decide), hb, ea]
      · rw [fillF_ne n2, u2_nk (by decide), u2_nk (by decide), u2_at]
      · rw [fillF_ne n2, u2_nk (by decide), u2_at]
      · rw [fillF_ne n2, u2_at]
      · rw [fillF_ne n3, u2_ne (fun e => n1 e.symm), u2_ne (fun e => n1 e.symm), u2_ne (fun e => n1 e.symm)]
    by_cases hk : k = 0
    · have ea : a = n := by rw [dgL, if_pos hk] at hd; exact (Option.some.inj hd).symm
      by_cases h4 : (4 : Int32) ≤ i
      · rw [if_pos h4]; exact stop ea
      · rw [if_neg h4, if_pos (eq0.mpr (by omega))]; exact stop ea
    · have hd2 := hd
      rw [dgL, if_neg hk] at hd2
      have h8 : ¬ (k % 8 = 0 ∨ n = 4) := fun h => by rw [if_pos h] at hd2; cases hd2
      rw [if_neg h8] at hd2
      rw [if_neg (by rw [ile, hi, cI4]; omega), if_neg (fun h => hk (by have := eq0.mp h; omega))]
      have d1 : ((rest &&& 7) - 1).toInt = ((k % 8 : Nat) : Int) - 1 := by rw [isub (and7 hr) cI1 (by omega) (by omega)]
      obtain ⟨I1, e1, e2, e3, e4, e5, e6, e7, e8, e9, e10, e11, e12⟩ := ih (n + 1) (k / 8) a (u2 (u2 I so i.toNatClampNeg ((rest &&& 7) - 1)) b 2 (I b 2 + 1)) (rest >>> ((3 : Int32) &&& 31)) (i + 1) (by rw [add1 (b := 4) (by omega) (by omega), hi]; omega) (shr3 hr) (by omega) (by omega) hd2 (by rw [u2_at, add1 (b := 4) (by omega) (by omega), hb]; omega)
      rw [clamp_toInt hi] at e2 e3 e8
      refine ⟨I1, e1, fun c q1 q2 q3 => by rw [e2 c q1 q2 q3, u2_ne q1, u2_ne q2], fun q q1 q2 q3 q4 => by rw [e3 q q1 q2 q3 q4, u2_nk q1, u2_ne n1], e4, e5, e6, e7, fun q hq => ?_, fun q q1 q2 => ?_, e10, by omega, e12⟩
      · rw [e8 q (by omega), u2_ne (fun e => n1 e.symm), u2_nk (by omega)]
      · by_cases z : q = n
        · subst z
          rw [e8 q (by omega), u2_ne (fun e => n1 e.symm), u2_at, d1]
          simp
        · rw [e9 q (by omega) q2, show q - n = (q - (n + 1)) + 1 by omega, Nat.pow_succ, Nat.mul_comm, ← Nat.div_div_eq_div_mul]
theorem become_full {b so fa a t : Nat} {x1 x2 : Int32} {I : hI} {J : hJ} {R : hR} (vso : R b 3 = some so) (vfa : R b 7 = some fa) (n1 : b ≠ so) (n2 : b ≠ fa) (n3 : so ≠ fa) (ht : x2.toInt = t) (hd : dgL 5 0 (t / 8) = some a) :
    ∃ I1, F_X5_become b x1 x2 I J R = (I1, J, R) ∧ (∀ c, c ≠ b → c ≠ so → c ≠ fa → I1 c = I c) ∧ I1 b 0 = x1 ∧ (I1 b 1).toInt = ((t % 8 : Nat) : Int) ∧ (I1 b 2).toInt = a ∧ I1 b 4 = 0 ∧ I1 b 5 = -1 ∧ I1 b 6 = 0 ∧ (∀ q, q < a → (I1 so q).toInt = ((t / 8 / 8 ^ q % 8 : Nat) : Int) - 1) ∧ (∀ q, q < 4 → I1 fa q = 1) ∧ a ≤ 4 := by
  obtain ⟨I1, e1, e2, e3, e4, e5, e6, e7, e8, e9, e10, e11, e12⟩ := become_L (x1 := x1) (x2 := x2) (y9 := x2 >>> ((3 : Int32) &&& 31)) (y3 := x2 &&& 7) (J := J) vso vfa n1 n2 n3 5 0 (t / 8) a (u2 (u2 (u2 I b 0 x1) b 1 (x2 &&& 7)) b 2 0) (x2 >>> ((3 : Int32) &&& 31)) 0 (by decide) (shr3 ht) (by omega) (by omega) hd (by rw [u2_at]; decide)
  refine ⟨I1, e1, fun c q1 q2 q3 => by rw [e2 c q1 q2 q3, u2_ne q1, u2_ne q1, u2_ne q1], ?_, ?_, e4, e5, e6, e7, fun q hq => e9 q (by omega) hq, e10, e12⟩
  · rw [e3 0 (by decide) (by decide) (by decide) (by decide), u2_nk (by decide), u2_nk (by decide), u2_at]
  · rw [e3 1 (by decide) (by decide) (by decide) (by decide), u2_nk (by decide), u2_at]
    exact and7 ht
/-- the model's add, in full -/
theorem madd2_L {mo n8 b18 b25 b4 b6 b8 s m : Nat} {x1 x2 x3 x6 : Int32} {J : hJ} {R : hR} (v11 : R mo 11 = some b18) (v16 : R mo 16 = some b25) (v13 : R mo 13 = some b4) (v14 : R mo 14 = some b6) (v15 : R mo 15 = some b8) (hs : x1.toNatClampNeg = s) (hm : x6.toInt = m) (bm : m < 120)
    (n1 : n8 ≠ b18) (n2 : n8 ≠ b25) (n3 : n8 ≠ b4) (n4 : n8 ≠ b6) (n5 : n8 ≠ b8) (k1 : b18 ≠ b25) (k2 : b18 ≠ b4) (k3 : b18 ≠ b6) (k4 : b18 ≠ b8) (k5 : b25 ≠ b4) (k6 : b25 ≠ b6) (k7 : b25 ≠ b8) (k8 : b4 ≠ b6) (k9 : b4 ≠ b8) (k10 : b6 ≠ b8) :
    ∀ (f n a k : Nat) (I : hI) (x4 x5 i : Int32), i.toInt = n → x4.toInt = a → x5.toInt = k → n ≤ 4 → 5 ≤ f + n → (I n8 s).toInt < 2147483647 →
      ∃ I1, F_X11_add_136 mo x1 x2 x3 n8 f I J R x4 x5 x6 i = (I n8 s, (I1, J, R)) ∧ (∀ c, c ≠ b18 → c ≠ b25 → c ≠ b4 → c ≠ b6 → c ≠ b8 → c ≠ n8 → I1 c = I c) ∧ I1 n8 = up (I n8) s (I n8 s + 1) ∧ I1 b4 = up (I b4) m 0 ∧ I1 b6 = up (I b6) m (-1) ∧ I1 b8 = up (I b8) m 0 ∧
        (∀ q, (q < 4 * m + n ∨ 4 * m + 4 ≤ q) → I1 b18 q = I b18 q ∧ I1 b25 q = I b25 q) ∧ ∀ j, n ≤ j → j < 4 → I1 b25 (4 * m + j) = 1 ∧ (I1 b18 (4 * m + j)).toInt = if j < a then ((k / 8 ^ (j - n) % 8 : Nat) : Int) - 1 else 0 := by
  intro f
  induction f with
  | zero => intro n a k I x4 x5 i _ _ _ h1 h2; omega
  | succ f ih =>
    intro n a k I x4 x5 i hi ha hk h1 h2 hz
    rw [F_X11_add_136_s]
    simp only [B_X11_add_136, nm, v11, v16, v13, v14, v15, Option.getD_some, hs, clamp_toInt hm]
    by_cases e : n = 4
    · rw [if_pos (by rw [ile, hi, cI4]; omega)]
      refine ⟨u2 (u2 (u2 (u2 I b4 m 0) b6 m (-1)) b8 m 0) n8 s (I n8 s + 1), ?_, fun c q1 q2 q3 q4 q5 q6 => ?_, ?_, ?_, ?_, ?_, fun q _ => ⟨?_, ?_⟩, fun j q1 q2 => by omega⟩
      · rw [u2_ne n5, u2_ne n4, u2_ne n3, u2_at, addsub1 hz]
      · rw [u2_ne q6, u2_ne q5, u2_ne q4, u2_ne q3]
      · rw [u2_up, u2_ne n5, u2_ne n4, u2_ne n3]
      · rw [u2_ne (fun h => n3 h.symm), u2_ne k9, u2_ne k8, u2_up]
      · rw [u2_ne (fun h => n4 h.symm), u2_ne k10, u2_up, u2_ne (fun h => k8 h.symm)]
      · rw [u2_ne (fun h => n5 h.symm), u2_up, u2_ne (fun h => k10 h.symm), u2_ne (fun h => k9 h.symm)]
      · rw [u2_ne (fun h => n1 h.symm), u2_ne k4, u2_ne k3, u2_ne k2]
      · rw [u2_ne (fun h => n2 h.symm), u2_ne k7, u2_ne k6, u2_ne k5]
    · rw [if_neg (by rw [ile, hi, cI4]; omega)]
      have hi1 : (i + 1).toInt = ((n + 1 : Nat) : Int) := by rw [add1 (b := 4) (by omega) (by omega), hi]; omega
      have m4 := imul (x := 4) (y := x6) cI4 hm (by omega) (by omega)
      have i1 : (4 * x6 + i).toNatClampNeg = 4 * m + n := clamp_toInt (by rw [iadd m4 hi (by omega) (by omega)]; omega)
      rw [i1]
      have go : ∀ z : Int32, z.toInt = (if n < a then ((k % 8 : Nat) : Int) - 1 else 0) → ∃ I1, F_X11_add_136 mo x1 x2 x3 n8 f (u2 (u2 I b18 (4 * m + n) z) b25 (4 * m + n) 1) J R x4 (x5 / 8) x6 (i + 1) = (I n8 s, (I1, J, R)) ∧ (∀ c, c ≠ b18 → c ≠ b25 → c ≠ b4 → c ≠ b6 → c ≠ b8 → c ≠ n8 → I1 c = I c) ∧ I1 n8 = up (I n8) s (I n8 s + 1) ∧ I1 b4 = up (I b4) m 0 ∧ I1 b6 = up (I b6) m (-1) ∧ I1 b8 = up (I b8) m 0 ∧
          (∀ q, (q < 4 * m + n ∨ 4 * m + 4 ≤ q) → I1 b18 q = I b18 q ∧ I1 b25 q = I b25 q) ∧ ∀ j, n ≤ j → j < 4 → I1 b25 (4 * m + j) = 1 ∧ (I1 b18 (4 * m + j)).toInt = if j < a then ((k / 8 ^ (j - n) % 8 : Nat) : Int) - 1 else 0 := fun z hzz => by
        have w1 : ∀ c, c ≠ b18 → c ≠ b25 → u2 (u2 I b18 (4 * m + n) z) b25 (4 * m + n) 1 c = I c := fun c q1 q2 => by rw [u2_ne q2, u2_ne q1]
        obtain ⟨I1, e1, e2, e3, e4, e5, e6, e7, e8⟩ := ih (n + 1) a (k / 8) (u2 (u2 I b18 (4 * m + n) z) b25 (4 * m + n) 1) x4 (x5 / 8) (i + 1) hi1 ha (div8 hk) (by omega) (by omega) (by rw [w1 n8 n1 n2]; exact hz)
        rw [w1 n8 n1 n2] at e1 e3
        rw [w1 b4 (fun h => k2 h.symm) (fun h => k5 h.symm)] at e4
        rw [w1 b6 (fun h => k3 h.symm) (fun h => k6 h.symm)] at e5
        rw [w1 b8 (fun h => k4 h.symm) (fun h => k7 h.symm)] at e6
        refine ⟨I1, e1, fun c q1 q2 q3 q4 q5 q6 => by rw [e2 c q1 q2 q3 q4 q5 q6, w1 c q1 q2], e3, e4, e5, e6, fun q hq => ?_, fun j q1 q2 => ?_⟩
        · obtain ⟨z1, z2⟩ := e7 q (by omega)
          exact ⟨by rw [z1, u2_nk (show q ≠ 4 * m + n by omega), u2_nk (show q ≠ 4 * m + n by omega)], by rw [z2, u2_nk (show q ≠ 4 * m + n by omega), u2_nk (show q ≠ 4 * m + n by omega)]⟩
        · by_cases y : j = n
          · subst y
            obtain ⟨z1, z2⟩ := e7 (4 * m + j) (by omega)
            rw [z1, z2, u2_at, u2_ne k1, u2_at, hzz]
            refine ⟨rfl, ?_⟩
            simp
          · obtain ⟨z1, z2⟩ := e8 j (by omega) q2
            refine ⟨z1, ?_⟩
            rw [z2, show j - n = (j - (n + 1)) + 1 by omega, Nat.pow_succ, Nat.mul_comm, ← Nat.div_div_eq_div_mul]
      by_cases h0 : a ≤ n
      · rw [if_pos (by rw [ile, ha, hi]; omega)]
        exact go 0 (by rw [if_neg (by omega)]; decide)
      · rw [if_neg (by rw [ile, ha, hi]; omega)]
        exact go (x5 - x5 / 8 * 8 - 1) (by rw [if_pos (by omega), isub (rem8 hk) cI1 (by omega) (by omega)])
/-- what one member more is, in the model's tables -/
def MAdd (I I1 : hI) (s m a t : Nat) (x2 : Int32) (m8 n9 y10 o11 e12 w13 f14 u15 t16 : Nat) : Prop :=
  I1 m8 = up (I m8) s (I m8 s + 1) ∧ I1 n9 = up (I n9) m x2 ∧ (∃ z : Int32, z.toInt = ((t % 8 : Nat) : Int) ∧ I1 e12 = up (I e12) m z) ∧ (∃ z : Int32, z.toInt = a ∧ I1 y10 = up (I y10) m z) ∧ I1 w13 = up (I w13) m 0 ∧ I1 f14 = up (I f14) m (-1) ∧ I1 u15 = up (I u15) m 0 ∧
    (∀ q, (q < 4 * m ∨ 4 * m + 4 ≤ q) → I1 o11 q = I o11 q ∧ I1 t16 q = I t16 q) ∧ ∀ j, j < 4 → I1 t16 (4 * m + j) = 1 ∧ (I1 o11 (4 * m + j)).toInt = if j < a then ((t / 8 / 8 ^ j % 8 : Nat) : Int) - 1 else 0
theorem madd1_L {L : List Nat} {C : Nat → Nat} {mo m8 n9 y10 o11 e12 w13 f14 u15 t16 s t : Nat} {x1 x2 x3 : Int32} {I : hI} {J : hJ} {R : hR} (d8 : At L C R mo 8 m8 70) (d9 : At L C R mo 9 n9 71) (d10 : At L C R mo 10 y10 72) (d11 : At L C R mo 11 o11 73) (d12 : At L C R mo 12 e12 74) (d13 : At L C R mo 13 w13 75) (d14 : At L C R mo 14 f14 76) (d15 : At L C R mo 15 u15 77) (d16 : At L C R mo 16 t16 78)
    (hx1 : x1.toInt = s) (bs : s < 20) (ht : x3.toInt = t) (hz : 0 ≤ (I m8 s).toInt ∧ (I m8 s).toInt < 6) :
    ∀ (f n k a : Nat) (i left : Int32), i.toInt = n → left.toInt = k → n ≤ 4 → 5 ≤ f + n → dgL f n k = some a → ∃ I1, F_X11_add_37 mo x1 x2 x3 m8 f I J R i left = (I m8 s, (I1, J, R)) ∧ MAdd I I1 s (6 * s + (I m8 s).toNatClampNeg) a t x2 m8 n9 y10 o11 e12 w13 f14 u15 t16 := by
  intro f
  induction f with
  | zero => intro n k a i left _ _ h1 h2; omega
  | succ f ih =>
    intro n k a i left hi hl h1 h2 hd
    have hs : x1.toNatClampNeg = s := clamp_toInt hx1
    rw [F_X11_add_37_s]
    simp only [B_X11_add_37, nm, d9.2.2, d12.2.2, d10.2.2, Option.getD_some, hs]
    by_cases hk : k = 0
    · have ea : a = n := by rw [dgL, if_pos hk] at hd; exact (Option.some.inj hd).symm
      rw [if_pos (by rw [ile, hl, cI0]; omega), if_neg (by rw [ieq, cI6]; omega)]
      obtain ⟨m, hm⟩ : ∃ m, m = 6 * s + (I m8 s).toNatClampNeg := ⟨_, rfl⟩
      have hzn := nat_of hz.1
      have m6 := imul (x := 6) (y := x1) cI6 hx1 (by omega) (by omega)
      have y52 : (6 * x1 + I m8 s).toInt = ((m : Nat) : Int) := by rw [iadd m6 rfl (by omega) (by omega), hm]; omega
      rw [← hm, clamp_toInt y52]
      have k8 := d8.2.1
      have k9 := d9.2.1
      have k10 := d10.2.1
      have k11 := d11.2.1
      have k12 := d12.2.1
      have k13 := d13.2.1
      have k14 := d14.2.1
      have k15 := d15.2.1
      have k16 := d16.2.1
      obtain ⟨K, hK⟩ : ∃ K, K = u2 (u2 (u2 I n9 m x2) e12 m (x3 - x3 / 8 * 8)) y10 m i := ⟨_, rfl⟩
      rw [← hK]
      have q : ∀ c r, C c = r → r ≠ 71 → r ≠ 72 → r ≠ 74 → K c = I c := fun c r h z1 z2 z3 => by rw [hK, u2_ne (ne_role h k10 z2), u2_ne (ne_role h k12 z3), u2_ne (ne_role h k9 z1)]
      obtain ⟨I1, e1, e2, e3, e4, e5, e6, e7, e8⟩ := madd2_L (x1 := x1) (x2 := x2) (x3 := x3) (x6 := 6 * x1 + I m8 s) (J := J) d11.2.2 d16.2.2 d13.2.2 d14.2.2 d15.2.2 hs y52 (by omega) (ne_role k8 k11 (by decide)) (ne_role k8 k16 (by decide)) (ne_role k8 k13 (by decide)) (ne_role k8 k14 (by decide)) (ne_role k8 k15 (by decide)) (ne_role k11 k16 (by decide)) (ne_role k11 k13 (by decide)) (ne_role k11 k14 (by decide)) (ne_role k11 k15 (by decide)) (ne_role k16 k13 (by decide)) (ne_role k16 k14 (by decide)) (ne_role k16 k15 (by decide)) (ne_role k13 k14 (by decide)) (ne_role k13 k15 (by decide)) (ne_role k14 k15 (by decide)) 5 0 n (t / 8) K i (x3 / 8) 0 (by decide) hi (div8 ht) (by omega) (by omega) (by rw [q m8 70 k8 (by decide) (by decide) (by decide)]; omega)
      rw [q m8 70 k8 (by decide) (by decide) (by decide)] at e1 e3
      rw [q w13 75 k13 (by decide) (by decide) (by decide)] at e4
      rw [q f14 76 k14 (by decide) (by decide) (by decide)] at e5
      rw [q u15 77 k15 (by decide) (by decide) (by decide)] at e6
      rw [q o11 73 k11 (by decide) (by decide) (by decide), q t16 78 k16 (by decide) (by decide) (by decide)] at e7
      have fr : ∀ c r, C c = r → r ≠ 73 → r ≠ 78 → r ≠ 75 → r ≠ 76 → r ≠ 77 → r ≠ 70 → I1 c = K c := fun c r h z1 z2 z3 z4 z5 z6 => e2 c (ne_role h k11 z1) (ne_role h k16 z2) (ne_role h k13 z3) (ne_role h k14 z4) (ne_role h k15 z5) (ne_role h k8 z6)
      refine ⟨I1, e1, e3, ?_, ⟨x3 - x3 / 8 * 8, rem8 ht, ?_⟩, ⟨i, by rw [hi, ea], ?_⟩, e4, e5, e6, fun z hz => e7 z (by omega), fun j hj => ?_⟩
      · rw [fr n9 71 k9 (by decide) (by decide) (by decide) (by decide) (by decide) (by decide), hK, u2_ne (ne_role k9 k10 (by decide)), u2_ne (ne_role k9 k12 (by decide)), u2_up]
      · rw [fr e12 74 k12 (by decide) (by decide) (by decide) (by decide) (by decide) (by decide), hK, u2_ne (ne_role k12 k10 (by decide)), u2_up, u2_ne (ne_role k12 k9 (by decide))]
      · rw [fr y10 72 k10 (by decide) (by decide) (by decide) (by decide) (by decide) (by decide), hK, u2_up, u2_ne (ne_role k10 k12 (by decide)), u2_ne (ne_role k10 k9 (by decide))]
      · have := e8 j (by omega) hj
        rw [ea]
        exact this
    · have hd2 := hd
      rw [dgL, if_neg hk] at hd2
      have h8 : ¬ (k % 8 = 0 ∨ n = 4) := fun h => by rw [if_pos h] at hd2; cases hd2
      rw [if_neg h8] at hd2
      rw [if_neg (by rw [ile, hl, cI0]; omega), if_neg (by rw [ieq, rem8 hl, cI0]; omega), if_neg (by rw [ieq, hi, cI4]; omega)]
      exact ih (n + 1) (k / 8) a (i + 1) (left / 8) (by rw [add1 (b := 4) (by omega) (by omega), hi]; omega) (div8 hl) (by omega) (by omega) hd2
/-- the relation -/
def CelM (L : List Nat) (C : Nat → Nat) (x mo : Nat) (R : hR) (sh m8 n9 y10 o11 e12 w13 f14 u15 t16 : Nat) : Prop := At L C R x 4 sh 57 ∧ At L C R mo 8 m8 70 ∧ At L C R mo 9 n9 71 ∧ At L C R mo 10 y10 72 ∧ At L C R mo 11 o11 73 ∧ At L C R mo 12 e12 74 ∧ At L C R mo 13 w13 75 ∧ At L C R mo 14 f14 76 ∧ At L C R mo 15 u15 77 ∧ At L C R mo 16 t16 78
def MemEq (I : hI) (me so fa m n9 y10 o11 e12 w13 f14 u15 t16 : Nat) : Prop := I me 0 = I n9 m ∧ I me 1 = I e12 m ∧ I me 2 = I y10 m ∧ (∀ i : Nat, (i : Int) < (I me 2).toInt → I so i = I o11 (4 * m + i)) ∧ I me 4 = I w13 m ∧ I me 5 = I f14 m ∧ (I me 4 = 0 → I me 6 = I u15 m) ∧ ∀ i, i < 4 → I fa i = I t16 (4 * m + i)
def ShEq (I : hI) (R : hR) (sh m8 n9 y10 o11 e12 w13 f14 u15 t16 : Nat) : Prop := ∀ s, s < 20 → ∀ b, R sh s = some b → I b 1 = I m8 s ∧ ∀ j : Nat, j < 6 → (j : Int) < (I b 1).toInt → ∀ ma me so fa, R b 0 = some ma → R ma j = some me → R me 3 = some so → R me 7 = some fa → MemEq I me so fa (6 * s + j) n9 y10 o11 e12 w13 f14 u15 t16
def RM (L : List Nat) (C : Nat → Nat) (x mo : Nat) (u : hU) : Prop := C x = 10 ∧ C mo = 11 ∧ ∃ sh m8 n9 y10 o11 e12 w13 f14 u15 t16 : Nat, CelM L C x mo u.2.2 sh m8 n9 y10 o11 e12 w13 f14 u15 t16 ∧ ShEq u.1 u.2.2 sh m8 n9 y10 o11 e12 w13 f14 u15 t16
/-- the cells of a member -/
theorem memAt {L : List Nat} {C : Nat → Nat} {R : hR} {b ma me so fa j : Nat} (oR : OkR L C R) (mb : b ∈ L) (kb : C b = 7) (hj : j < 6) (v1 : R b 0 = some ma) (v2 : R ma j = some me) (v3 : R me 3 = some so) (v4 : R me 7 = some fa) : (ma ∈ L ∧ C ma = 56) ∧ (me ∈ L ∧ C me = 5) ∧ (so ∈ L ∧ C so = 54) ∧ (fa ∈ L ∧ C fa = 55) := by
  obtain ⟨ma1, a1, a2, a3⟩ := rf_7_0 oR mb kb
  obtain rfl : ma1 = ma := Option.some.inj (a2.symm.trans v1)
  obtain ⟨me1, b1, b2, b3⟩ := oR ma1 a1 j (by rw [a3]; exact hj) (by rw [a3]; exact fun q => absurd (show (6 : Nat) = 0 from q) (by decide))
  rw [a3] at b3
  obtain rfl : me1 = me := Option.some.inj (b2.symm.trans v2)
  have kme : C me1 = 5 := Nat.succ.inj b3
  obtain ⟨so1, c1, c2, c3⟩ := rf_5_3 oR b1 kme
  obtain rfl : so1 = so := Option.some.inj (c2.symm.trans v3)
  obtain ⟨fa1, d1, d2, d3⟩ := rf_5_7 oR b1 kme
  obtain rfl : fa1 = fa := Option.some.inj (d2.symm.trans v4)
  exact ⟨⟨a1, a3⟩, ⟨b1, kme⟩, ⟨c1, c3⟩, ⟨d1, d3⟩⟩
theorem ow7 : ow 7 0 = true := rfl
theorem ow56 {i : Nat} (h : i < 6) : ow 56 i = true := by simp [ow, Nat.blt_eq]; exact h
theorem ow53 : ow 5 3 = true := rfl
theorem ow57' : ow 5 7 = true := rfl
/-- two members that share a cell are one -/
theorem memNe {L : List Nat} {C : Nat → Nat} {R : hR} {sh s s1 b b1 ma ma1 me me1 j j1 : Nat} (ow0 : Ow L C R) (oR : OkR L C R) (msh : sh ∈ L) (ksh : C sh = 57) (hs : s < 20) (hs1 : s1 < 20) (vb : R sh s = some b) (vb1 : R sh s1 = some b1) (hj : j < 6) (hj1 : j1 < 6) (v1 : R b 0 = some ma) (w1 : R b1 0 = some ma1) (v2 : R ma j = some me) (w2 : R ma1 j1 = some me1) (e : me = me1) : s = s1 ∧ j = j1 := by
  obtain ⟨mb, kb⟩ := shapeAt oR msh ksh hs vb
  obtain ⟨mb1, kb1⟩ := shapeAt oR msh ksh hs1 vb1
  obtain ⟨ma2, a1, a2, a3⟩ := rf_7_0 oR mb kb
  obtain rfl : ma2 = ma := Option.some.inj (a2.symm.trans v1)
  obtain ⟨ma3, c1, c2, c3⟩ := rf_7_0 oR mb1 kb1
  obtain rfl : ma3 = ma1 := Option.some.inj (c2.symm.trans w1)
  subst e
  obtain ⟨q1, q2⟩ := ow0 ma2 a1 ma3 c1 j j1 me (a3.trans c3.symm) (by rw [a3]; exact ow56 hj) (by rw [c3]; exact ow56 hj1) v2 w2
  subst q1
  obtain ⟨q3, -⟩ := ow0 b mb b1 mb1 0 0 ma2 (kb.trans kb1.symm) (by rw [kb]; rfl) (by rw [kb1]; rfl) v1 w1
  subst q3
  exact ⟨(ow0 sh msh sh msh s s1 b rfl (by rw [ksh]; exact ow57 hs) (by rw [ksh]; exact ow57 hs1) vb vb1).2, q2⟩
def codesM : List Nat := [644, 3648, 448, 449, 3584, 320, 321, 322, 323, 324, 325, 326, 327, 3456, 3520, 712, 713, 714, 715, 716, 717, 718, 719, 720, 4480, 4544, 4608, 4672, 4736, 4800, 4864, 4928, 4992]
theorem smR {C : Nat → Nat} {ms : List Nat} {u v : hU} {b r k : Nat} (s : Sm C ms u v) (hb : C b = r) (hm : ms.contains (mC r k) = false) : v.2.2 b k = u.2.2 b k := (s b k (by rw [hb]; exact nm_obj hm)).2.2
theorem RM.sm {L : List Nat} {C : Nat → Nat} {x mo : Nat} {ms : List Nat} {u v : hU} (rel : RM L C x mo u) (oR : OkR L C v.2.2) (s : Sm C ms u v) (hm : codesM.all (fun z => !ms.contains z) = true) : RM L C x mo v := by
  obtain ⟨kx, km, sh, m8, n9, y10, o11, e12, w13, f14, u15, t16, ⟨c4, d8, d9, d10, d11, d12, d13, d14, d15, d16⟩, e⟩ := rel
  have hn : ∀ z ∈ codesM, ms.contains z = false := fun z hz => by have := List.all_eq_true.mp hm z hz; simpa using this
  refine ⟨kx, km, sh, m8, n9, y10, o11, e12, w13, f14, u15, t16, ⟨c4.sm s kx (hn 644 (by decide)), d8.sm s km (hn 712 (by decide)), d9.sm s km (hn 713 (by decide)), d10.sm s km (hn 714 (by decide)), d11.sm s km (hn 715 (by decide)), d12.sm s km (hn 716 (by decide)), d13.sm s km (hn 717 (by decide)), d14.sm s km (hn 718 (by decide)), d15.sm s km (hn 719 (by decide)), d16.sm s km (hn 720 (by decide))⟩, ?_⟩
  intro k hk b vb
  obtain ⟨mb, kb⟩ := shapeAt oR c4.1 c4.2.1 hk vb
  have r57 : ∀ z, v.2.2 sh z = u.2.2 sh z := fun z => (s sh z (by rw [c4.2.1]; exact nm_arr (by decide) (hn 3648 (by decide)))).2.2
  rw [r57] at vb
  obtain ⟨q1, q2⟩ := e k hk b vb
  rw [smO (k := 1) s kb (hn 449 (by decide)), smA s d8.2.1 (by decide) (hn 4480 (by decide))]
  refine ⟨q1, fun j hj hlt ma me so fa v1 v2 v3 v4 => ?_⟩
  obtain ⟨⟨mma, kma⟩, ⟨mme, kme⟩, ⟨mso, kso⟩, ⟨mfa, kfa⟩⟩ := memAt oR mb kb hj v1 v2 v3 v4
  rw [smR (k := 0) s kb (hn 448 (by decide))] at v1
  have v2' : u.2.2 ma j = some me := by rw [← (s ma j (by rw [kma]; exact nm_arr (by decide) (hn 3584 (by decide)))).2.2]; exact v2
  rw [smR (k := 3) s kme (hn 323 (by decide))] at v3
  rw [smR (k := 7) s kme (hn 327 (by decide))] at v4
  have w := q2 j hj hlt ma me so fa v1 v2' v3 v4
  unfold MemEq at *
  rw [smO (k := 0) s kme (hn 320 (by decide)), smO (k := 1) s kme (hn 321 (by decide)), smO (k := 2) s kme (hn 322 (by decide)), smO (k := 4) s kme (hn 324 (by decide)), smO (k := 5) s kme (hn 325 (by decide)), smO (k := 6) s kme (hn 326 (by decide)), smA s kso (by decide) (hn 3456 (by decide)), smA s kfa (by decide) (hn 3520 (by decide)), smA s d9.2.1 (by decide) (hn 4544 (by decide)), smA s d10.2.1 (by decide) (hn 4608 (by decide)), smA s d11.2.1 (by decide) (hn 4672 (by decide)), smA s d12.2.1 (by decide) (hn 4736 (by decide)), smA s d13.2.1 (by decide) (hn 4800 (by decide)), smA s d14.2.1 (by decide) (hn 4864 (by decide)), smA s d15.2.1 (by decide) (hn 4928 (by decide)), smA s d16.2.1 (by decide) (hn 4992 (by decide))]
  exact w
theorem RM.init {L : List Nat} {C : Nat → Nat} {x mo : Nat} {I : hI} {J : hJ} {R : hR} (z0 : Z0 L C I J) (oR : OkR L C R) (mx : x ∈ L) (kx : C x = 10) (mm : mo ∈ L) (km : C mo = 11) : RM L C x mo (I, J, R) := by
  obtain ⟨sh, a1, a2, a3⟩ := rf_10_4 oR mx kx
  obtain ⟨m8, b1, b2, b3⟩ := rf_11_8 oR mm km
  obtain ⟨n9, c1, c2, c3⟩ := rf_11_9 oR mm km
  obtain ⟨y10, d1, d2, d3⟩ := rf_11_10 oR mm km
  obtain ⟨o11, e1, e2, e3⟩ := rf_11_11 oR mm km
  obtain ⟨e12, f1, f2, f3⟩ := rf_11_12 oR mm km
  obtain ⟨w13, g1, g2, g3⟩ := rf_11_13 oR mm km
  obtain ⟨f14, h1, h2, h3⟩ := rf_11_14 oR mm km
  obtain ⟨u15, i1, i2, i3⟩ := rf_11_15 oR mm km
  obtain ⟨t16, j1, j2, j3⟩ := rf_11_16 oR mm km
  refine ⟨kx, km, sh, m8, n9, y10, o11, e12, w13, f14, u15, t16, ⟨⟨a1, a3, a2⟩, ⟨b1, b3, b2⟩, ⟨c1, c3, c2⟩, ⟨d1, d3, d2⟩, ⟨e1, e3, e2⟩, ⟨f1, f3, f2⟩, ⟨g1, g3, g2⟩, ⟨h1, h3, h2⟩, ⟨i1, i3, i2⟩, ⟨j1, j3, j2⟩⟩, fun s hs b vb => ?_⟩
  obtain ⟨mb, kb⟩ := shapeAt oR a1 a3 hs vb
  have q1 : I b 1 = 0 := z0.1 b mb 1 (by rw [kb]; rfl)
  have q2 : I m8 s = 0 := z0.1 m8 b1 s (by rw [b3]; rfl)
  refine ⟨q1.trans q2.symm, fun j hj hlt => ?_⟩
  have hlt : (j : Int) < (I b 1).toInt := hlt
  rw [q1, cI0] at hlt
  omega
theorem ShEq.upd {L : List Nat} {C : Nat → Nat} {I I2 : hI} {R : hR} {sh m8 n9 y10 o11 e12 w13 f14 u15 t16 s0 j0 b0 ma0 me0 so0 fa0 : Nat} {z : Int32} (h : ShEq I R sh m8 n9 y10 o11 e12 w13 f14 u15 t16) (ow0 : Ow L C R) (oR : OkR L C R) (msh : sh ∈ L) (ksh : C sh = 57) (hs0 : s0 < 20) (hj0 : j0 < 6) (vb0 : R sh s0 = some b0) (v1 : R b0 0 = some ma0) (v2 : R ma0 j0 = some me0) (v3 : R me0 3 = some so0) (v4 : R me0 7 = some fa0)
    (a1 : I2 b0 1 = z) (a1' : ∀ b, C b = 7 → b ≠ b0 → I2 b 1 = I b 1) (a2 : I2 m8 s0 = z) (a2' : ∀ q, q ≠ s0 → I2 m8 q = I m8 q) (cov : ∀ j : Nat, (j : Int) < z.toInt → j ≠ j0 → (j : Int) < (I b0 1).toInt) (a3 : ∀ c, C c = 5 → c ≠ me0 → I2 c = I c) (a4 : ∀ c, C c = 54 → c ≠ so0 → I2 c = I c) (a5 : ∀ c, C c = 55 → c ≠ fa0 → I2 c = I c)
    (b1 : ∀ q, q ≠ 6 * s0 + j0 → I2 n9 q = I n9 q ∧ I2 y10 q = I y10 q ∧ I2 e12 q = I e12 q ∧ I2 w13 q = I w13 q ∧ I2 f14 q = I f14 q ∧ I2 u15 q = I u15 q) (b2 : ∀ q, (q < 4 * (6 * s0 + j0) ∨ 4 * (6 * s0 + j0) + 4 ≤ q) → I2 o11 q = I o11 q ∧ I2 t16 q = I t16 q) (ar : ∀ c ∈ L, C c = 5 → (I c 2).toInt ≤ 4)
    (hnew : (j0 : Int) < z.toInt → MemEq I2 me0 so0 fa0 (6 * s0 + j0) n9 y10 o11 e12 w13 f14 u15 t16) : ShEq I2 R sh m8 n9 y10 o11 e12 w13 f14 u15 t16 := by
  intro s hs b vb
  obtain ⟨mb, kb⟩ := shapeAt oR msh ksh hs vb
  obtain ⟨mb0, kb0⟩ := shapeAt oR msh ksh hs0 vb0
  obtain ⟨⟨mma0, kma0⟩, ⟨mme0, kme0⟩, ⟨mso0, kso0⟩, ⟨mfa0, kfa0⟩⟩ := memAt oR mb0 kb0 hj0 v1 v2 v3 v4
  obtain ⟨q1, q2⟩ := h s hs b vb
  have old : ∀ j : Nat, j < 6 → ¬ (s = s0 ∧ j = j0) → (j : Int) < (I b 1).toInt → ∀ ma me so fa, R b 0 = some ma → R ma j = some me → R me 3 = some so → R me 7 = some fa → MemEq I2 me so fa (6 * s + j) n9 y10 o11 e12 w13 f14 u15 t16 := fun j hj ne hlt ma me so fa x1 x2 x3 x4 => by
    obtain ⟨⟨mma, kma⟩, ⟨mme, kme⟩, ⟨mso, kso⟩, ⟨mfa, kfa⟩⟩ := memAt oR mb kb hj x1 x2 x3 x4
    have n1 : me ≠ me0 := fun e => ne (memNe ow0 oR msh ksh hs hs0 vb vb0 hj hj0 x1 v1 x2 v2 e)
    have n2 : so ≠ so0 := fun e => n1 (ow0 me mme me0 mme0 3 3 so (kme.trans kme0.symm) (by rw [kme]; rfl) (by rw [kme0]; rfl) x3 (by rw [e]; exact v3)).1
    have n3 : fa ≠ fa0 := fun e => n1 (ow0 me mme me0 mme0 7 7 fa (kme.trans kme0.symm) (by rw [kme]; rfl) (by rw [kme0]; rfl) x4 (by rw [e]; exact v4)).1
    have nm_ : 6 * s + j ≠ 6 * s0 + j0 := fun e => ne ⟨by omega, by omega⟩
    obtain ⟨g1, g2, g3, g4, g5, g6⟩ := b1 _ nm_
    have w := q2 j hj hlt ma me so fa x1 x2 x3 x4
    have w8 := ar me mme kme
    obtain ⟨t1, t2, t3, t4, t5, t6, t7, t8⟩ := w
    unfold MemEq
    rw [a3 me kme n1, a4 so kso n2, a5 fa kfa n3, g1, g2, g3, g4, g5, g6]
    exact ⟨t1, t2, t3, fun i hi => by rw [(b2 (4 * (6 * s + j) + i) (by omega)).1]; exact t4 i hi, t5, t6, t7, fun i hi => by rw [(b2 (4 * (6 * s + j) + i) (by omega)).2]; exact t8 i hi⟩
  by_cases e : s = s0
  · subst e
    obtain rfl : b = b0 := Option.some.inj (vb.symm.trans vb0)
    rw [a1]
    refine ⟨a2.symm, fun j hj hlt ma me so fa x1 x2 x3 x4 => ?_⟩
    by_cases ej : j = j0
    · subst ej
      obtain rfl : ma = ma0 := Option.some.inj (x1.symm.trans v1)
      obtain rfl : me = me0 := Option.some.inj (x2.symm.trans v2)
      obtain rfl : so = so0 := Option.some.inj (x3.symm.trans v3)
      obtain rfl : fa = fa0 := Option.some.inj (x4.symm.trans v4)
      exact hnew hlt
    · exact old j hj (fun h => ej h.2) (cov j hlt ej) ma me so fa x1 x2 x3 x4
  · have nb : b ≠ b0 := fun h => e (ow0 sh msh sh msh s s0 b rfl (by rw [ksh]; exact ow57 hs) (by rw [ksh]; exact ow57 hs0) vb (by rw [h]; exact vb0)).2
    rw [a1' b kb nb, a2' s e]
    exact ⟨q1, fun j hj hlt => old j hj (fun h => e h.1) hlt⟩
