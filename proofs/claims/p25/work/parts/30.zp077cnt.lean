/-! how many flags stand -/
def cntF (f : Nat → Int32) : Nat → Int32
  | 0 => 0
  | n + 1 => cntF f n + (if f n = 0 then 0 else 1)
def sumF (f : Nat → Int32) : Nat → Int32
  | 0 => 0
  | n + 1 => sumF f n + f n
theorem cnt_ge {f : Nat → Int32} {k : Nat} {v : Int32} : ∀ n, n ≤ k → cntF (up f k v) n = cntF f n := by
  intro n
  induction n with
  | zero => intro _; rfl
  | succ n ih =>
    intro h
    show cntF (up f k v) n + (if up f k v n = 0 then 0 else 1) = cntF f n + (if f n = 0 then 0 else 1)
    rw [ih (by omega), up_ne (by omega)]
theorem i32_cancel {a : Int32} : a + 1 - 1 = a := by rw [Int32.sub_eq_add_neg, Int32.add_assoc, show (1 : Int32) + -1 = 0 by decide, Int32.add_zero]
theorem cnt_lt {f : Nat → Int32} {k : Nat} (h0 : f k ≠ 0) : ∀ n, k < n → cntF (up f k 0) n = cntF f n - 1 := by
  intro n
  induction n with
  | zero => intro h; omega
  | succ n ih =>
    intro h
    show cntF (up f k 0) n + (if up f k 0 n = 0 then 0 else 1) = cntF f n + (if f n = 0 then 0 else 1) - 1
    by_cases e : n = k
    · subst e
      rw [up_at, if_pos rfl, if_neg h0, cnt_ge n (Nat.le_refl _), i32_cancel, Int32.add_zero]
    · rw [ih (by omega), up_ne e, Int32.sub_eq_add_neg, Int32.sub_eq_add_neg, Int32.add_assoc, Int32.add_assoc, Int32.add_comm (-1)]
def RH (L : List Nat) (C : Nat → Nat) (x : Nat) (u : hU) : Prop := ∃ ru rth : Nat, At L C u.2.2 x 0 ru 6 ∧ At L C u.2.2 ru 5 rth 37 ∧ u.1 ru 7 = cntF (u.1 rth) (u.1 ru 6).toNatClampNeg
def RXC (L : List Nat) (C : Nat → Nat) (x mo : Nat) (u : hU) : Prop := RX L C x mo u ∧ RH L C x u
theorem RH.sm {L : List Nat} {C : Nat → Nat} {x : Nat} {ms : List Nat} {u v : hU} (rel : RH L C x u) (kx : C x = 10) (s : Sm C ms u v) (hm : [640, 389, 390, 391, 2368].all (fun z => !ms.contains z) = true) : RH L C x v := by
  obtain ⟨ru, rth, c0, c6, e⟩ := rel
  have hn : ∀ z ∈ [640, 389, 390, 391, 2368], ms.contains z = false := fun z hz => by have := List.all_eq_true.mp hm z hz; simpa using this
  refine ⟨ru, rth, c0.sm s kx (hn 640 (by decide)), c6.sm s c0.2.1 (hn 389 (by decide)), ?_⟩
  rw [smO (k := 7) s c0.2.1 (hn 391 (by decide)), smO (k := 6) s c0.2.1 (hn 390 (by decide)), smA s c6.2.1 (by decide) (hn 2368 (by decide))]
  exact e
theorem RXC.sm {L : List Nat} {C : Nat → Nat} {x mo : Nat} {ms : List Nat} {u v : hU} (rel : RXC L C x mo u) (oI : OkI L C v.1) (oR : OkR L C v.2.2) (s : Sm C ms u v) (hm : ([640, 389, 390, 391, 2368] ++ (codesT ++ (codesK ++ (codesR ++ (codesM ++ ([641, 0, 1, 721, 722, 2560, 5056] ++ [642, 128, 129, 723, 724, 2624, 2688, 5120, 5184])))))).all (fun z => !ms.contains z) = true) : RXC L C x mo v := by
  rw [List.all_append, Bool.and_eq_true] at hm
  exact ⟨RX.sm rel.1 oI oR s hm.2, RH.sm rel.2 rel.1.2.1 s hm.1⟩
theorem RH.init {L : List Nat} {C : Nat → Nat} {x ru rth : Nat} {I : hI} {J : hJ} {R : hR} (oR : OkR L C R) (uq : Uq L C) (mx : x ∈ L) (kx : C x = 10) (mr : ru ∈ L) (kr : C ru = 6) (mt : rth ∈ L) (kt : C rth = 37) (h6 : I ru 6 = 12) (h7 : I ru 7 = 12) (ht : cntF (I rth) 12 = 12) : RH L C x (I, J, R) := by
  obtain ⟨r1, m1, v1, k1⟩ := rf_10_0 oR mx kx
  obtain rfl : ru = r1 := uq _ mr _ m1 (kr.trans k1.symm) (by rw [kr]; rfl)
  obtain ⟨t1, m2, v2, k2⟩ := rf_6_5 oR m1 k1
  obtain rfl : rth = t1 := uq _ mt _ m2 (kt.trans k2.symm) (by rw [kt]; rfl)
  refine ⟨ru, rth, ⟨m1, k1, v1⟩, ⟨m2, k2, v2⟩, ?_⟩
  show I ru 7 = cntF (I rth) (I ru 6).toNatClampNeg
  rw [h6, h7, show Int32.toNatClampNeg 12 = 12 by decide]
  exact ht.symm
