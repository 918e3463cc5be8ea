/-! making objects: the pool grows -/
def rmC (d mc ms : Nat) : Room := { frames := d, cells := mc, slots := ms, locals := 60 * d }
def Gw (L : List Nat) (C : Nat → Nat) (L1 : List Nat) (C1 : Nat → Nat) (q r : Nat) : Prop := L1 = L ++ [q] ∧ C1 = va_up C q r ∧ q ∉ L
theorem Gw.mem {L L1 : List Nat} {C C1 : Nat → Nat} {q r a : Nat} (g : Gw L C L1 C1 q r) (h : a ∈ L) : a ∈ L1 := by rw [g.1]; exact List.mem_append_left _ h
theorem Gw.new {L L1 : List Nat} {C C1 : Nat → Nat} {q r : Nat} (g : Gw L C L1 C1 q r) : q ∈ L1 := by rw [g.1]; exact List.mem_append_right _ List.mem_cons_self
theorem Gw.at {L L1 : List Nat} {C C1 : Nat → Nat} {q r : Nat} (g : Gw L C L1 C1 q r) : C1 q = r := by rw [g.2.1]; exact va_up_self _ _ _
theorem Gw.ne {L L1 : List Nat} {C C1 : Nat → Nat} {q r a : Nat} (g : Gw L C L1 C1 q r) (h : a ∈ L) : a ≠ q := fun e => g.2.2 (e ▸ h)
theorem Gw.keep {L L1 : List Nat} {C C1 : Nat → Nat} {q r a : Nat} (g : Gw L C L1 C1 q r) (h : a ∈ L) : C1 a = C a := by rw [g.2.1]; exact va_up_ne _ _ (g.ne h)
theorem Gw.role {L L1 : List Nat} {C C1 : Nat → Nat} {q r a x : Nat} (g : Gw L C L1 C1 q r) (h : a ∈ L) (hc : C a = x) : C1 a = x := (g.keep h).trans hc
theorem Gw.cases {L L1 : List Nat} {C C1 : Nat → Nat} {q r a : Nat} (g : Gw L C L1 C1 q r) (h : a ∈ L1) : a ∈ L ∨ a = q := by
  rw [g.1] at h
  rcases List.mem_append.mp h with h | h
  · exact Or.inl h
  · exact Or.inr (List.mem_singleton.mp h)
/-- rows of a cell under construction -/
def rl : List (Nat × Nat) → Nat → Option Nat
  | [], _ => none
  | (a, b) :: t, k => if k = a then some b else rl t k
def il : List (Nat × Int32) → Nat → Int32
  | [], _ => 0
  | (a, b) :: t, k => if k = a then b else il t k
theorem rl_put {R : hR} {q k v : Nat} {l : List (Nat × Nat)} (h : R q = rl l) : u2 R q k (some v) q = rl ((k, v) :: l) := by rw [u2_eq, h]; rfl
theorem il_put {I : hI} {q k : Nat} {v : Int32} {l : List (Nat × Int32)} (h : I q = il l) : u2 I q k v q = il ((k, v) :: l) := by rw [u2_eq, h]; rfl
/-- what is kept while objects are made; S: the roles that occur -/
def KK (L : List Nat) (C : Nat → Nat) (I : hI) (R : hR) (S : List Nat) : Prop := OkI L C I ∧ OkR L C R ∧ Uq L C ∧ (∀ a ∈ L, S.contains (C a) = true) ∧ XM L C I ∧ XW L C I
theorem rR_no (x y r : Nat) (hr : (16 ≤ r ∧ r < 28) ∨ (58 ≤ r ∧ r ≤ 60)) : rR x y ≠ r + 1 := by
  have h1 : ∀ l ∈ obT, ∀ v ∈ l, v ≤ 16 ∨ (32 ≤ v ∧ v ≤ 58) ∨ 62 ≤ v := by decide
  have h2 : ∀ v ∈ arT, v ≤ 16 ∨ (32 ≤ v ∧ v ≤ 58) ∨ 62 ≤ v := by decide
  have g : ∀ (l : List Nat) (k : Nat), (∀ v ∈ l, v ≤ 16 ∨ (32 ≤ v ∧ v ≤ 58) ∨ 62 ≤ v) → l.getD k 0 ≤ 16 ∨ (32 ≤ l.getD k 0 ∧ l.getD k 0 ≤ 58) ∨ 62 ≤ l.getD k 0 := by
    intro l k h
    rw [List.getD_eq_getElem?_getD]
    cases e : l[k]? with
    | none => left; simp
    | some v => exact h v (List.mem_of_getElem? e)
  have g2 : ∀ (k : Nat), ∀ v ∈ obT.getD k [], v ≤ 16 ∨ (32 ≤ v ∧ v ≤ 58) ∨ 62 ≤ v := by
    intro k v hv
    rw [List.getD_eq_getElem?_getD] at hv
    cases e : obT[k]? with
    | none => rw [e] at hv; simp at hv
    | some l => rw [e] at hv; exact h1 l (List.mem_of_getElem? e) v hv
  unfold rR
  split
  · intro h
    have h3 := g _ y (g2 x)
    rw [h] at h3
    omega
  · split
    · exact fun h => by omega
    · intro h
      have h3 := g arT (x - 32) h2
      rw [h] at h3
      omega
theorem KK.new {L L1 : List Nat} {C C1 : Nat → Nat} {I I1 : hI} {R R1 : hR} {S : List Nat} {q r : Nat} (k : KK L C I R S) (g : Gw L C L1 C1 q r) (eI : I1 = va_up I q (fun _ => 0)) (eR : R1 = va_up R q (fun _ => none)) (hz : ∀ j, rLo r j ≤ 0 ∧ 0 ≤ rHi r j) (hr : ∀ j, rR r j = 0) (hu : rU r = false ∨ S.contains r = false) (h5 : r ≠ 5) : KK L1 C1 I1 R1 (r :: S) := by
  obtain ⟨k1, k2, k3, k4, k5, k6⟩ := k
  have z0 : Int32.toInt 0 = 0 := by decide
  have iq : I1 q = fun _ => 0 := by rw [eI]; exact va_up_self _ _ _
  have ia : ∀ a ∈ L, I1 a = I a := fun a h => by rw [eI]; exact va_up_ne _ _ (g.ne h)
  have ra : ∀ a ∈ L, R1 a = R a := fun a h => by rw [eR]; exact va_up_ne _ _ (g.ne h)
  refine ⟨?_, ?_, ?_, ?_, ?_, ?_⟩
  · intro a ha j hj
    rcases g.cases ha with h | rfl
    · rw [ia a h, g.keep h] at *
      exact k1 a h j hj
    · rw [iq, g.at, z0]
      exact ⟨(hz j).1, (hz j).2, fun _ => Or.inl (by decide)⟩
  · intro a ha j hj hn
    rcases g.cases ha with h | rfl
    · rw [g.keep h] at hj hn
      obtain ⟨b, b1, b2, b3⟩ := k2 a h j hj hn
      exact ⟨b, g.mem b1, by rw [ra a h]; exact b2, by rw [g.keep b1, g.keep h]; exact b3⟩
    · rw [g.at] at hn
      exact absurd (hr j) hn
  · intro a ha b hb e hu1
    rcases g.cases ha with h | h <;> rcases g.cases hb with h' | h'
    · rw [g.keep h, g.keep h'] at e
      rw [g.keep h] at hu1
      exact k3 a h b h' e hu1
    · subst h'
      rw [g.keep h, g.at] at e
      rw [g.keep h, e] at hu1
      rcases hu with hu | hu
      · rw [hu] at hu1; cases hu1
      · have := k4 a h
        rw [e, hu] at this
        cases this
    · subst h
      rw [g.keep h', g.at] at e
      rw [g.at] at hu1
      rcases hu with hu | hu
      · rw [hu] at hu1; cases hu1
      · have := k4 b h'
        rw [← e, hu] at this
        cases this
    · rw [h, h']
  · intro a ha
    rcases g.cases ha with h | rfl
    · rw [g.keep h]
      have := k4 a h
      simp only [List.contains_cons, this, Bool.or_true]
    · rw [g.at]; simp
  · intro a ha ca
    rcases g.cases ha with h | rfl
    · rw [g.keep h] at ca
      rw [ia a h]
      exact k5 a h ca
    · rw [g.at] at ca; exact absurd ca h5
  · intro a ha b hb ca cb j hj
    rcases g.cases ha with h | rfl
    · rw [g.keep h] at ca
      rw [ia a h]
      rcases g.cases hb with h' | rfl
      · rw [g.keep h'] at cb
        rw [ia b h']
        exact k6 a h b h' ca cb j hj
      · intro _
        rw [iq]
        show 0 ≤ Int32.toInt 0
        decide
    · rw [iq]
      intro h
      exact absurd z0 h
theorem KK.stI {L : List Nat} {C : Nat → Nat} {I : hI} {R : hR} {S : List Nat} {q r j : Nat} {v : Int32} (k : KK L C I R S) (hC : C q = r) (h : 16 ≤ r ∧ r < 32) : KK L C (u2 I q j v) R S := by
  obtain ⟨k1, k2, k3, k4, k5, k6⟩ := k
  refine ⟨k1.st hC ?_, k2, k3, k4, k5.off hC (Or.inl (by omega)), k6.off hC (by omega) (by omega)⟩
  have e1 : rLo r j = -2147483648 := by unfold rLo; rw [if_neg (by omega), if_pos h.2]
  have e2 : rHi r j = 2147483647 := by unfold rHi; rw [if_neg (by omega), if_pos h.2]
  have e3 : rX r = false := by unfold rX; simp; omega
  rw [e1, e2, e3]
  exact ⟨(Rg_any v).1, (Rg_any v).2, fun q => by cases q⟩
theorem OkR.off {L : List Nat} {C : Nat → Nat} {R : hR} {q r j : Nat} {v : Option Nat} (h : OkR L C R) (hC : C q = r) (h0 : ∀ j, rR r j = 0) : OkR L C (u2 R q j v) := by
  intro a ha x hx hn
  by_cases e : a = q
  · subst e; rw [hC] at hn; exact absurd (h0 x) hn
  · rw [u2_ne e]; exact h a ha x hx hn
theorem KK.stR {L : List Nat} {C : Nat → Nat} {I : hI} {R : hR} {S : List Nat} {q r j : Nat} {v : Option Nat} (k : KK L C I R S) (hC : C q = r) (h0 : ∀ j, rR r j = 0) : KK L C I (u2 R q j v) S := ⟨k.1, k.2.1.off hC h0, k.2.2⟩
theorem raw0 {r : Nat} (h : 16 ≤ r ∧ r < 32) : ∀ j, rR r j = 0 := by
  intro j
  unfold rR
  rw [if_neg (by omega), if_pos h.2]
theorem KK.sm {L : List Nat} {C : Nat → Nat} {ms : List Nat} {u v : hU} {S : List Nat} (k : KK L C u.1 u.2.2 S) (hi : OkI L C v.1) (hr : OkR L C v.2.2) (s : Sm C ms u v) (h1 : ms.contains (75 * 64) = false) (h2 : ms.contains (76 * 64) = false) (h3 : ms.contains (5 * 64 + 4) = false) (h4 : ms.contains (5 * 64 + 5) = false) : KK L C v.1 v.2.2 S :=
  ⟨hi, hr, k.2.2.1, k.2.2.2.1, k.2.2.2.2.1.sm s h3 h4, k.2.2.2.2.2.sm s h1 h2⟩
/-- a cell gets its final role -/
theorem KK.rel {L : List Nat} {C : Nat → Nat} {I : hI} {R : hR} {S : List Nat} {q r0 r : Nat} (k : KK L C I R S) (hq : q ∈ L) (hC : C q = r0) (hraw : (16 ≤ r0 ∧ r0 < 28) ∨ (58 ≤ r0 ∧ r0 ≤ 60)) (hI : ∀ j, j < rN r → rLo r j ≤ (I q j).toInt ∧ (I q j).toInt ≤ rHi r j ∧ (rX r = true → (I q j).toInt ≤ 3 ∨ (I q j).toInt = 9)) (hR : ∀ j, j < rN r → rR r j ≠ 0 → ∃ b, b ∈ L ∧ b ≠ q ∧ R q j = some b ∧ C b + 1 = rR r j) (hu : rU r = false ∨ S.contains r = false) (h5 : r = 5 → (I q 4).toInt = 0) (h75 : r ≠ 75) (h76 : r ≠ 76) : KK L (va_up C q r) I R (r :: S) := by
  obtain ⟨k1, k2, k3, k4, k5, k6⟩ := k
  have ne : ∀ a, a ≠ q → va_up C q r a = C a := fun a h => va_up_ne _ _ h
  have sf : va_up C q r q = r := va_up_self _ _ _
  have nr : ∀ (x y : Nat), rR x y ≠ r0 + 1 := fun x y => rR_no x y r0 hraw
  refine ⟨?_, ?_, ?_, ?_, ?_, ?_⟩
  · intro a ha j hj
    by_cases e : a = q
    · subst e; rw [sf] at *; exact hI j hj
    · rw [ne a e] at *; exact k1 a ha j hj
  · intro a ha j hj hn
    by_cases e : a = q
    · subst e
      rw [sf] at *
      obtain ⟨b, b1, b2, b3, b4⟩ := hR j hj hn
      exact ⟨b, b1, b3, by rw [ne b b2]; exact b4⟩
    · rw [ne a e] at *
      obtain ⟨b, b1, b2, b3⟩ := k2 a ha j hj hn
      have bq : b ≠ q := fun h => nr (C a) j (by rw [← b3, h, hC])
      exact ⟨b, b1, b2, by rw [ne b bq]; exact b3⟩
  · intro a ha b hb e hu1
    by_cases h : a = q <;> by_cases h' : b = q
    · rw [h, h']
    · subst h
      rw [sf, ne b h'] at e
      rw [sf] at hu1
      rcases hu with hu | hu
      · rw [hu] at hu1; cases hu1
      · have := k4 b hb
        rw [← e, hu] at this
        cases this
    · subst h'
      rw [sf, ne a h] at e
      rw [ne a h, e] at hu1
      rcases hu with hu | hu
      · rw [hu] at hu1; cases hu1
      · have := k4 a ha
        rw [e, hu] at this
        cases this
    · rw [ne a h, ne b h'] at e
      rw [ne a h] at hu1
      exact k3 a ha b hb e hu1
  · intro a ha
    by_cases e : a = q
    · subst e; rw [sf]; simp
    · rw [ne a e]
      have := k4 a ha
      simp only [List.contains_cons, this, Bool.or_true]
  · intro a ha ca
    by_cases e : a = q
    · subst e
      rw [sf] at ca
      intro h
      exact absurd (h5 ca) h
    · rw [ne a e] at ca; exact k5 a ha ca
  · intro a ha b hb ca cb
    by_cases e : a = q
    · subst e; rw [sf] at ca; exact absurd ca h75
    · by_cases e' : b = q
      · subst e'; rw [sf] at cb; exact absurd cb h76
      · rw [ne a e] at ca
        rw [ne b e'] at cb
        exact k6 a ha b hb ca cb
/-- the cells that were there, but for one, are as they were -/
def Old (L0 : List Nat) (C0 : Nat → Nat) (u0 : hU) (a0 : Nat) (L : List Nat) (C : Nat → Nat) (I : hI) (J : hJ) (R : hR) : Prop := ∀ a ∈ L0, a ∈ L ∧ (a ≠ a0 → C a = C0 a ∧ I a = u0.1 a ∧ J a = u0.2.1 a ∧ R a = u0.2.2 a)
theorem Old.rf {L : List Nat} {C : Nat → Nat} {I : hI} {J : hJ} {R : hR} {a0 : Nat} : Old L C (I, J, R) a0 L C I J R := fun _ h => ⟨h, fun _ => ⟨rfl, rfl, rfl, rfl⟩⟩
theorem Old.new {L0 L L1 : List Nat} {C0 C C1 : Nat → Nat} {u0 : hU} {a0 q r : Nat} {I I1 : hI} {J J1 : hJ} {R R1 : hR} (h : Old L0 C0 u0 a0 L C I J R) (g : Gw L C L1 C1 q r) (eI : I1 = va_up I q (fun _ => 0)) (eJ : J1 = va_up J q (fun _ => 0)) (eR : R1 = va_up R q (fun _ => none)) : Old L0 C0 u0 a0 L1 C1 I1 J1 R1 := by
  intro a ha
  obtain ⟨h1, h2⟩ := h a ha
  refine ⟨g.mem h1, fun hn => ?_⟩
  obtain ⟨c1, c2, c3, c4⟩ := h2 hn
  rw [g.keep h1, eI, eJ, eR, va_up_ne _ _ (g.ne h1), va_up_ne _ _ (g.ne h1), va_up_ne _ _ (g.ne h1)]
  exact ⟨c1, c2, c3, c4⟩
theorem Old.stI {L0 L : List Nat} {C0 C : Nat → Nat} {u0 : hU} {a0 q j : Nat} {v : Int32} {I : hI} {J : hJ} {R : hR} (h : Old L0 C0 u0 a0 L C I J R) (hq : q = a0 ∨ q ∉ L0) : Old L0 C0 u0 a0 L C (u2 I q j v) J R := by
  intro a ha
  obtain ⟨h1, h2⟩ := h a ha
  refine ⟨h1, fun hn => ?_⟩
  have ne : a ≠ q := fun e => hq.elim (fun x => hn (e.trans x)) (fun x => x (e ▸ ha))
  rw [u2_ne ne]
  exact h2 hn
theorem Old.stJ {L0 L : List Nat} {C0 C : Nat → Nat} {u0 : hU} {a0 q j : Nat} {v : Int64} {I : hI} {J : hJ} {R : hR} (h : Old L0 C0 u0 a0 L C I J R) (hq : q = a0 ∨ q ∉ L0) : Old L0 C0 u0 a0 L C I (u2 J q j v) R := by
  intro a ha
  obtain ⟨h1, h2⟩ := h a ha
  refine ⟨h1, fun hn => ?_⟩
  have ne : a ≠ q := fun e => hq.elim (fun x => hn (e.trans x)) (fun x => x (e ▸ ha))
  rw [u2_ne ne]
  exact h2 hn
theorem Old.stR {L0 L : List Nat} {C0 C : Nat → Nat} {u0 : hU} {a0 q j : Nat} {v : Option Nat} {I : hI} {J : hJ} {R : hR} (h : Old L0 C0 u0 a0 L C I J R) (hq : q = a0 ∨ q ∉ L0) : Old L0 C0 u0 a0 L C I J (u2 R q j v) := by
  intro a ha
  obtain ⟨h1, h2⟩ := h a ha
  refine ⟨h1, fun hn => ?_⟩
  have ne : a ≠ q := fun e => hq.elim (fun x => hn (e.trans x)) (fun x => x (e ▸ ha))
  rw [u2_ne ne]
  exact h2 hn
theorem Old.rel {L0 L : List Nat} {C0 C : Nat → Nat} {u0 : hU} {a0 q r : Nat} {I : hI} {J : hJ} {R : hR} (h : Old L0 C0 u0 a0 L C I J R) (hq : q = a0 ∨ q ∉ L0) : Old L0 C0 u0 a0 L (va_up C q r) I J R := by
  intro a ha
  obtain ⟨h1, h2⟩ := h a ha
  refine ⟨h1, fun hn => ?_⟩
  have ne : a ≠ q := fun e => hq.elim (fun x => hn (e.trans x)) (fun x => x (e ▸ ha))
  rw [va_up_ne _ _ ne]
  exact h2 hn
/-- a method of ours was called that changes cells of none of the old roles -/
theorem mC_div (r k : Nat) : mC r k / 64 = r := by
  unfold mC
  split <;> omega
theorem nm_role {r k : Nat} {ms : List Nat} (h : (ms.map (fun x => x / 64)).contains r = false) : mC r k ∉ ms := by
  intro q
  have : (ms.map (fun x => x / 64)).contains r = true := by
    have h1 : mC r k / 64 ∈ ms.map (fun x => x / 64) := List.mem_map_of_mem q
    rw [mC_div] at h1
    simpa using h1
  rw [h] at this
  cases this
theorem Old.sm {L0 L : List Nat} {C0 C : Nat → Nat} {u0 : hU} {a0 : Nat} {I I1 : hI} {J J1 : hJ} {R R1 : hR} {ms S : List Nat} (h : Old L0 C0 u0 a0 L C I J R) (s : Sm C ms (I, J, R) (I1, J1, R1)) (hS : ∀ a ∈ L0, S.contains (C0 a) = true) (hd : S.all (fun r => !(ms.map (fun x => x / 64)).contains r) = true) : Old L0 C0 u0 a0 L C I1 J1 R1 := by
  intro a ha
  obtain ⟨h1, h2⟩ := h a ha
  refine ⟨h1, fun hn => ?_⟩
  obtain ⟨c1, c2, c3, c4⟩ := h2 hn
  have hx : (ms.map (fun x => x / 64)).contains (C a) = false := by
    rw [c1]
    have h9 := List.all_eq_true.mp hd (C0 a) (by simpa using hS a ha)
    simpa using h9
  have e : ∀ k, I1 a k = I a k ∧ J1 a k = J a k ∧ R1 a k = R a k := fun k => s a k (nm_role hx)
  refine ⟨c1, ?_, ?_, ?_⟩
  · rw [← c2]; exact funext fun k => (e k).1
  · rw [← c3]; exact funext fun k => (e k).2.1
  · rw [← c4]; exact funext fun k => (e k).2.2
/-- and a constructor, on the new cell q -/
theorem Old.ctor {L0 L L1 : List Nat} {C0 C C1 : Nat → Nat} {u0 : hU} {a0 q : Nat} {I I1 : hI} {J J1 : hJ} {R R1 : hR} (h : Old L0 C0 u0 a0 L C I J R) (h1 : Old L C (I, J, R) q L1 C1 I1 J1 R1) (hq : q ∉ L0) : Old L0 C0 u0 a0 L1 C1 I1 J1 R1 := by
  intro a ha
  obtain ⟨p1, p2⟩ := h a ha
  obtain ⟨q1, q2⟩ := h1 a p1
  refine ⟨q1, fun hn => ?_⟩
  obtain ⟨c1, c2, c3, c4⟩ := p2 hn
  obtain ⟨d1, d2, d3, d4⟩ := q2 (fun e => hq (e ▸ ha))
  exact ⟨d1.trans c1, d2.trans c2, d3.trans c3, d4.trans c4⟩
abbrev hA : Type := List Nat × (Nat → Nat) × hU
def CA (l : Launch) (y : MethodName) (cc : ByteArray) (n d mc ms : Nat) (D : va_G) (cy : Nat → ClassId) (L : List Nat) (C : Nat → Nat) (b0 : Nat) (av : List Value) (u : hU) (post : hA → Prop) : Prop :=
  Met l y (wM y cc n none) (rmC d mc ms) (va_Pc av (PcU D cy L C b0 u)) (va_Qv post (fun (q : hA) t => BcU D cy q.1 q.2.1 b0 q.2.2 t) (fun q => b0 ≤ q)) mc ms (fun q => b0 ≤ q)
section CTOR
variable {p : Program} {l : Launch} {e : Env} {Rm : Room} {s : State} {m : MethodId} {args : Array Value} {below : List Frame} {meth : Method} {c : Code} {H H0 : Heap} {locs : List Loc} {cells slots : Nat} {Q : State → Prop}
variable {cc : ByteArray} {pc : Nat} {ls : Array Slot} {rest : List Value} {own : String}
variable {D : va_G} {cy : Nat → ClassId} {L : List Nat} {C : Nat → Nat} {b0 : Nat} {I : hI} {J : hJ} {R : hR}
theorem CA.mk {y : MethodName} {n d mc ms : Nat} {av : List Value} {u : hU} {post : hA → Prop} (hy : plainFor y = true) (hlen : (lg_sl av).length ≤ n)
    (body : ∀ p e s m args below meth c ls Q, Fx p s m args meth c cc n y.cls none → meth.name = y.name → (∀ (L : List Nat) (C : Nat → Nat) (I : hI) (J : hJ) (R : hR) (H : Heap) (locs : List Loc) (pc : Nat) (ls : Array Slot), decode cc pc = .ok (.return_, 1) → Hp D cy L C b0 s s.heap I J R H locs → post (L, C, I, J, R) → W p l e (rmC d mc ms) s m args below meth c H locs mc ms Q (F0 m pc ls [])) → Hp D cy L C b0 s s.heap u.1 u.2.1 u.2.2 s.heap [] → lv_has ls n (lv_args 0 av) →
      W p l e (rmC d mc ms) s m args below meth c s.heap [] 0 0 Q (F0 m 0 ls [])) : CA l y cc n d mc ms D cy L C b0 av u post := by
  refine Met.ofWF (cc := cc) (maxL := n) (ret := none) hy rfl ?_
  intro p e s m args below meth c s₁ B hml hv
  obtain ⟨rfl, hv⟩ := hv
  have hts := atoms_spec (ws := wM y cc n none) B.pre
  rw [lg_entry_eq]
  refine body p e s m _ below meth c _ _ ⟨B.exec, B.bytes, B.returns, hml, findClass_of_methodNamed B.named, fun w h => hts w (List.mem_cons_of_mem _ h), B.notSynchronized⟩ (name_of_methodNamed B.named B.method).1 (fun L1 C1 I1 J1 R1 H1 locs1 pc ls hdg hH hp => ?_) hv.hp (lv_entry av hlen)
  exact W.vret B.exec B.bytes B.returns (fun t ht hW => ⟨⟨(L1, C1, I1, J1, R1), rfl, hp, by rw [ht]; exact hH.2.1, hH.2.2.1⟩, hH.2.2.2.1.F ht⟩) hH.2.2.2.1.2.2 hdg B.notSynchronized
theorem wd_push {q r : Nat} (hq : q ∉ L) {E : va_E} (hE : eE cy (va_up C q r) (va_up I q (fun _ => 0)) (va_up J q (fun _ => 0)) (va_up R q (fun _ => none)) q = E) : wd cy L C I J R ++ [(q, E)] = wd cy (L ++ [q]) (va_up C q r) (va_up I q (fun _ => 0)) (va_up J q (fun _ => 0)) (va_up R q (fun _ => none)) := by
  show va_pl L _ ++ [(q, E)] = _
  rw [va_pl_push hq]
  refine va_pl_congr fun b => ?_
  by_cases hb : b = q
  · subst hb; rw [va_up_self, hE]
  · rw [va_up_ne _ _ hb]
    simp only [eE, eO, eF, va_up_ne _ _ hb]
theorem Hp.fresh (hH : Hp D cy L C b0 s H0 I J R H locs) {q : Nat} {E : va_E} (hD : va_D (fun q => b0 ≤ q) (wd cy L C I J R ++ [(q, E)])) : q ∉ L := by
  have h := va_pl_fresh2 (X := []) (L := L) (f := eE cy C I J R) (q := q) (e := E) (A := fun q => b0 ≤ q) (by rw [List.nil_append]; exact hD)
  exact h
theorem hNew {ci idx N : Nat} {C0 : String} {T : u_T} {ty : Nat → FieldType} (hx : p.tables.exec = Jvm.exec) (hb : c.code = cc) (hts : ∀ w ∈ wG, w.before args s = true) (hown : s.vm.findClass own = some m.cls) (hH : Hp D cy L C b0 s H0 I J R H locs)
    (hin : ∀ w ∈ u_ws C0 T N, w ∈ wG) (hty : ∀ k, k < N → parseFieldDescriptor (T k).2.2.1 = some (ty k)) (hc : vwCl[ci]? = some (C0, T, N)) (hci : ci < 12) (hN : nF ci = N) (hdef : ∀ j, j < N → defaultValue (ty j) = (if fT ci j = 0 then .int 0 else if fT ci j = 1 then .long 0 else .null)) (hcl : Cond.classLink own idx C0 ∈ wG) (hinst : Cond.instantiable C0 N ∈ wG) (hini : Cond.initialized C0 ∈ wG)
    (hcells : cells + 1 ≤ Rm.cells) (hslots : slots + N ≤ Rm.slots) (hdg : decode cc pc = .ok (.new idx, 3))
    (kk : ∀ (q : Nat) (L1 : List Nat) (C1 : Nat → Nat) (I1 : hI) (J1 : hJ) (R1 : hR) (H1 : Heap), Gw L C L1 C1 q (16 + ci) → I1 = va_up I q (fun _ => 0) → J1 = va_up J q (fun _ => 0) → R1 = va_up R q (fun _ => none) → Hp D cy L1 C1 b0 s H0 I1 J1 R1 H1 locs → W p l e Rm s m args below meth c H1 locs (cells + 1) (slots + N) Q (F0 m (pc + 3) ls (.ref q :: rest))) : W p l e Rm s m args below meth c H locs cells slots Q (F0 m pc ls rest) := by
  have hA : ∀ q, H0.size ≤ q → b0 ≤ q := fun q h => Nat.le_trans hH.2.2.2.2.1 h
  have r1 : rT (16 + ci) = ci := by unfold rT; rw [if_neg (by omega), if_pos (by omega)]; omega
  refine va_new (ci := ci) (fs := (List.range N).map (fun j => if fT ci j = 0 then Value.int 0 else if fT ci j = 1 then .long 0 else .null)) hx hb hts hin ty hty hown (hts _ hcl) (hts _ hinst) (hts _ hini) hH.1 hH.2.1 hH.2.2.1 hH.2.2.2.1 hA hc (fun j hj => by rw [hdef j hj]; simp [vp_V, hj]) hcells hslots hdg (fun q H1 hP hD hS => ?_)
  have hq : q ∉ L := hH.fresh hD
  have hE : eE cy (va_up C q (16 + ci)) (va_up I q (fun _ => 0)) (va_up J q (fun _ => 0)) (va_up R q (fun _ => none)) q = .inr (ci, (List.range N).map (fun j => if fT ci j = 0 then Value.int 0 else if fT ci j = 1 then .long 0 else .null)) := by
    rw [eE_obj (ci := ci) (by rw [va_up_self, r1]) hci]
    unfold eO
    rw [hN]
    congr 2
    apply List.map_congr_left
    intro j _
    simp only [eF, va_up_self, va_rf]
  rw [wd_push hq hE] at hP hD
  exact kk q _ _ _ _ _ H1 ⟨rfl, rfl, hq⟩ rfl rfl rfl ⟨hH.1, hP, hD, hS, hH.2.2.2.2.1, hH.2.2.2.2.2⟩
theorem cy_eq {k : Nat} {ty : FieldType} {cA : ClassId} (hH : Hp D cy L C b0 s H0 I J R H locs) (hk : (tysL cy)[k]? = some (cy k, ty)) (hp : refKind ty = false) (h : s.vm.findClass ("[" ++ ty.toString) = some cA) : cA = cy k := by
  have h1 := (hH.1.2 k _ hk).2
  have h2 : s.vm.findClass ("[" ++ ty.toString) = some (cy k) := by
    cases ty <;> first | exact h1 | cases hp
  exact Option.some.inj (h.symm.trans h2)
theorem hNewP {k r N : Nat} {n : Int32} {atype : ArrayType} {ty : FieldType} {a0 : vp_A} (hx : p.tables.exec = Jvm.exec) (hb : c.code = cc) (hts : ∀ w ∈ wG, w.before args s = true) (hH : Hp D cy L C b0 s H0 I J R H locs)
    (hty : newarray.typeOf atype = ty) (harr : Cond.arrayClass ty ∈ wG) (hk : (tysL cy)[k]? = some (cy k, ty)) (hp : refKind ty = false) (ha0 : vp_cell (cy k) a0 = arrV (cy k) N (fun _ => defaultValue ty)) (hE : ∀ q, eE cy (va_up C q r) (va_up I q (fun _ => 0)) (va_up J q (fun _ => 0)) (va_up R q (fun _ => none)) q = .inl (cy k, a0))
    (hn : ¬ n < 0) (hN : n.toNatClampNeg = N) (hbytes : N * componentBytes ty ≤ 536870912) (hcells : cells + 1 ≤ Rm.cells) (hslots : slots + N ≤ Rm.slots) (hdg : decode cc pc = .ok (.newarray atype, 2))
    (kk : ∀ (q : Nat) (L1 : List Nat) (C1 : Nat → Nat) (I1 : hI) (J1 : hJ) (R1 : hR) (H1 : Heap), Gw L C L1 C1 q r → I1 = va_up I q (fun _ => 0) → J1 = va_up J q (fun _ => 0) → R1 = va_up R q (fun _ => none) → Hp D cy L1 C1 b0 s H0 I1 J1 R1 H1 locs → W p l e Rm s m args below meth c H1 locs (cells + 1) (slots + N) Q (F0 m (pc + 2) ls (.ref q :: rest))) : W p l e Rm s m args below meth c H locs cells slots Q (F0 m pc ls (.int n :: rest)) := by
  subst hty
  refine va_newaK hx hb (hts _ harr) rfl hdg rfl hn hN hbytes hcells hslots rfl fun H1 cA e1 z1 o1 hAr hNm => ?_
  have ec := cy_eq hH hk hp hNm
  subst ec
  have hk2 : ∀ (k : Nat) (x : Nat × va_E), (wd cy L C I J R)[k]? = some x → H1[x.1]? = H[x.1]? := fun k x hx => o1 x.1 ((hH.2.1 k x hx).lt)
  have hq : H.size ∉ L := va_pl_fresh (X := []) (by rw [List.nil_append]; exact hH.2.1) (Nat.le_refl _)
  have hP : va_P D vwCl (wd cy L C I J R ++ [(H.size, .inl (cy k, a0))]) H1 := (hH.2.1.kept hk2).app (fun j x hx => by
    have hz : j < 1 := (List.getElem?_eq_some_iff.mp hx).1
    rw [show j = 0 by omega] at hx
    cases hx
    show H1[H.size]? = some (vp_cell _ _)
    rw [ha0]
    exact e1)
  have hD : va_D (fun q => b0 ≤ q) (wd cy L C I J R ++ [(H.size, .inl (cy k, a0))]) := hH.2.2.1.push hH.2.1 rfl (Nat.le_trans hH.2.2.2.2.1 hH.2.2.2.1.1)
  rw [wd_push hq (hE H.size)] at hP hD
  exact kk H.size _ _ _ _ _ H1 ⟨rfl, rfl, hq⟩ rfl rfl rfl ⟨hH.1, hP, hD, ⟨Nat.le_trans hH.2.2.2.1.1 (by omega), fun x h1 h2 => (o1 x (Nat.lt_of_lt_of_le h1 hH.2.2.2.1.1)).trans (hH.2.2.2.1.2.1 x h1 h2), hH.2.2.2.1.2.2⟩, hH.2.2.2.2.1, hH.2.2.2.2.2⟩
theorem hNewQ {k r N idx : Nat} {n : Int32} {C0 : String} (hx : p.tables.exec = Jvm.exec) (hb : c.code = cc) (hts : ∀ w ∈ wG, w.before args s = true) (hown : s.vm.findClass own = some m.cls) (hH : Hp D cy L C b0 s H0 I J R H locs)
    (hcl : Cond.classLink own idx C0 ∈ wG) (hao : va_AO C0 s) (hk : (tysL cy)[k]? = some (cy k, .object C0)) (hE : ∀ q, eE cy (va_up C q r) (va_up I q (fun _ => 0)) (va_up J q (fun _ => 0)) (va_up R q (fun _ => none)) q = .inl (cy k, N, .inr (.inr (.inr (.inr (fun _ => none))))))
    (hn : ¬ n < 0) (hN : n.toNatClampNeg = N) (hbytes : N * 4 ≤ 536870912) (hcells : cells + 1 ≤ Rm.cells) (hslots : slots + N ≤ Rm.slots) (hdg : decode cc pc = .ok (.anewarray idx, 3))
    (kk : ∀ (q : Nat) (L1 : List Nat) (C1 : Nat → Nat) (I1 : hI) (J1 : hJ) (R1 : hR) (H1 : Heap), Gw L C L1 C1 q r → I1 = va_up I q (fun _ => 0) → J1 = va_up J q (fun _ => 0) → R1 = va_up R q (fun _ => none) → Hp D cy L1 C1 b0 s H0 I1 J1 R1 H1 locs → W p l e Rm s m args below meth c H1 locs (cells + 1) (slots + N) Q (F0 m (pc + 3) ls (.ref q :: rest))) : W p l e Rm s m args below meth c H locs cells slots Q (F0 m pc ls (.int n :: rest)) := by
  have hA : ∀ q, H0.size ≤ q → b0 ≤ q := fun q h => Nat.le_trans hH.2.2.2.2.1 h
  refine va_newq hx hb hown (hts _ hcl) hao hH.1 hH.2.1 hH.2.2.1 hH.2.2.2.1 hA hn hN hbytes hcells hslots hdg (fun q cA H1 hK hP hD hS => ?_)
  have h1 := (hK.2 5 (cA, .object C0) rfl).2
  have h2 := (hH.1.2 k _ hk).2
  obtain ⟨kA, comp, a1, a2, a3, a4⟩ := h1
  obtain ⟨kB, comp2, b1, b2, b3, b4⟩ := h2
  have ec : cA = cy k := Option.some.inj (a4.symm.trans b4)
  subst ec
  have hq : q ∉ L := hH.fresh hD
  rw [wd_push hq (hE q)] at hP hD
  exact kk q _ _ _ _ _ H1 ⟨rfl, rfl, hq⟩ rfl rfl rfl ⟨hH.1, hP, hD, hS, hH.2.2.2.2.1, hH.2.2.2.2.2⟩
theorem Hp.rel {q r : Nat} (hH : Hp D cy L C b0 s H0 I J R H locs) (h1 : rT r = rT (C q)) (h2 : rN r = rN (C q)) : Hp D cy L (va_up C q r) b0 s H0 I J R H locs := by
  have e : wd cy L (va_up C q r) I J R = wd cy L C I J R := by
    refine va_pl_congr fun b => ?_
    by_cases hb : b = q
    · subst hb; simp only [eE, va_up_self, h1, h2]
    · simp only [eE, va_up_ne _ _ hb]
  unfold Hp
  rw [e]
  exact hH
theorem afA {a : Array Value} {mc ms : Nat} {st0 : List Value} {post : hA → Prop} (hrun : va_Run p l e Rm s m args below meth c H locs cells slots mc ms (F0 m pc ls st0) rest (va_Qv post (fun (q : hA) t => BcU D cy q.1 q.2.1 b0 q.2.2 t) (fun q => b0 ≤ q) a) (fun q => b0 ≤ q)) (hH : Hp D cy L C b0 s H0 I J R H locs)
    (kk : ∀ (L1 : List Nat) (C1 : Nat → Nat) (I1 : hI) (J1 : hJ) (R1 : hR) (H1 : Heap) (locs1 : List Loc), post (L1, C1, I1, J1, R1) → Hp D cy L1 C1 b0 s H0 I1 J1 R1 H1 locs1 → W p l e Rm s m args below meth c H1 locs1 (cells + mc) (slots + ms) Q (F0 m (pc + 3) ls rest)) : W p l e Rm s m args below meth c H locs cells slots Q (F0 m pc ls st0) :=
  va_callv hrun hH.2.2.2.1 (fun _ _ h => h) (fun _ h => h) (fun u t H1 locs1 ht _ hp hB _ _ hS => kk u.1 u.2.1 u.2.2.1 u.2.2.2.1 u.2.2.2.2 H1 locs1 hp ⟨hH.1, by rw [← ht]; exact hB.1, hB.2, hS, hH.2.2.2.2.1, hH.2.2.2.2.2⟩)
/-- the static arrays -/
theorem hStat {idx t : Nat} {nm : String} (hx : p.tables.exec = Jvm.exec) (hb : c.code = cc) (hts : ∀ w ∈ wG, w.before args s = true) (hown : s.vm.findClass own = some m.cls) (hH : Hp D cy L C b0 s s.heap I J R H locs) (hZ : va_Z RX6 nm "[I" (.ref t) (fun q => b0 ≤ q) s s.heap) (hl : Cond.fieldLink own idx RX6 nm "[I" ∈ wG) (hdg : decode cc pc = .ok (.getstatic idx, 3))
    (kk : W p l e Rm s m args below meth c H locs cells slots Q (F0 m (pc + 3) ls (.ref t :: rest))) : W p l e Rm s m args below meth c H locs cells slots Q (F0 m pc ls rest) :=
  va_gets hx hb hZ hH.2.2.2.1 hown (hts _ hl) (fun _ h => h) hdg kk
theorem hStatLd {t : Nat} {f : Nat → Value} {i v : Int32} (hx : p.tables.exec = Jvm.exec) (hb : c.code = cc) (hH : Hp D cy L C b0 s s.heap I J R H locs) (hT : va_T .int t 12 f (fun q => b0 ≤ q) s s.heap) (hi : vp_in i 12) (hv : f i.toNatClampNeg = .int v) (hdg : decode cc pc = .ok (.iaload, 1))
    (kk : W p l e Rm s m args below meth c H locs cells slots Q (F0 m (pc + 1) ls (.int v :: rest))) : W p l e Rm s m args below meth c H locs cells slots Q (F0 m pc ls (.int i :: .ref t :: rest)) :=
  va_ti hx hb hT hH.2.2.2.1 hi hv hdg kk
end CTOR
section EN
variable {cy : Nat → ClassId} {C : Nat → Nat} {I : hI} {J : hJ} {R : hR}
theorem eN_I {r n : Nat} (hr : rT r = 12) (hn : rN r = n) (q : Nat) : eE cy (va_up C q r) (va_up I q (fun _ => 0)) (va_up J q (fun _ => 0)) (va_up R q (fun _ => none)) q = .inl (cy 0, n, .inl (fun _ => 0)) := by rw [eE_I (by rw [va_up_self, hr]), va_up_self, va_up_self, hn]
theorem eN_J {r n : Nat} (hr : rT r = 13) (hn : rN r = n) (q : Nat) : eE cy (va_up C q r) (va_up I q (fun _ => 0)) (va_up J q (fun _ => 0)) (va_up R q (fun _ => none)) q = .inl (cy 1, n, .inr (.inl (fun _ => 0))) := by rw [eE_J (by rw [va_up_self, hr]), va_up_self, va_up_self, hn]
theorem eN_Z {r n : Nat} (hr : rT r = 14) (hn : rN r = n) (q : Nat) : eE cy (va_up C q r) (va_up I q (fun _ => 0)) (va_up J q (fun _ => 0)) (va_up R q (fun _ => none)) q = .inl (cy 2, n, .inl (fun _ => 0)) := by rw [eE_Z (by rw [va_up_self, hr]), va_up_self, va_up_self, hn]
theorem eN_M {r n : Nat} (hr : rT r = 15) (hn : rN r = n) (q : Nat) : eE cy (va_up C q r) (va_up I q (fun _ => 0)) (va_up J q (fun _ => 0)) (va_up R q (fun _ => none)) q = .inl (cy 3, n, .inr (.inr (.inr (.inr (fun _ => none))))) := by rw [eE_M (by rw [va_up_self, hr]), va_up_self, va_up_self, hn]
theorem eN_S {r n : Nat} (hr : rT r = 16) (hn : rN r = n) (q : Nat) : eE cy (va_up C q r) (va_up I q (fun _ => 0)) (va_up J q (fun _ => 0)) (va_up R q (fun _ => none)) q = .inl (cy 4, n, .inr (.inr (.inr (.inr (fun _ => none))))) := by rw [eE_S (by rw [va_up_self, hr]), va_up_self, va_up_self, hn]
end EN
theorem KK.wT {L : List Nat} {C : Nat → Nat} {I : hI} {R : hR} {S T : List Nat} (k : KK L C I R S) (h : ∀ r, S.contains r = true → T.contains r = true) : KK L C I R T := ⟨k.1, k.2.1, k.2.2.1, fun a ha => h _ (k.2.2.2.1 a ha), k.2.2.2.2⟩
theorem KK.wS {L : List Nat} {C : Nat → Nat} {I : hI} {R : hR} {S T : List Nat} (k : KK L C I R S) (h : S.all (fun r => T.contains r) = true) : KK L C I R T := k.wT (fun r hr => List.all_eq_true.mp h r (by simpa using hr))
