/-! what is known of the new pool: cells by name, ints that are 0, who owns whom -/
def raw (r : Nat) : Bool := (Nat.ble 12 r && Nat.blt r 32) || (Nat.ble 58 r && Nat.ble r 60)
theorem raw_or {r : Nat} (h : raw r = true) : r = 12 ∨ r = 13 ∨ r = 14 ∨ r = 15 ∨ r = 16 ∨ r = 17 ∨ r = 18 ∨ r = 19 ∨ r = 20 ∨ r = 21 ∨ r = 22 ∨ r = 23 ∨ r = 24 ∨ r = 25 ∨ r = 26 ∨ r = 27 ∨ r = 28 ∨ r = 29 ∨ r = 30 ∨ r = 31 ∨ r = 58 ∨ r = 59 ∨ r = 60 := by
  simp only [raw, Bool.or_eq_true, Bool.and_eq_true, Nat.ble_eq, Nat.blt_eq] at h
  omega
abbrev hE : Type := Nat × Nat × Bool × List (Nat × Int32)
abbrev hT : Type := List hE
/-- what is known of a cell's ints: all of them, or some -/
def Fc (f : Nat → Int32) (q : Bool × List (Nat × Int32)) : Prop := (q.1 = true → f = il q.2) ∧ (q.1 = false → ∀ p ∈ q.2, f p.1 = p.2)
theorem Fc.nil {f : Nat → Int32} : Fc f (false, []) := ⟨fun h => Bool.noConfusion h, fun _ _ h => absurd h List.not_mem_nil⟩
theorem Fc.row {f : Nat → Int32} {l : List (Nat × Int32)} (h : f = il l) : Fc f (true, l) := ⟨fun _ => h, fun h => Bool.noConfusion h⟩
theorem Fc.one {f : Nat → Int32} {k : Nat} {v : Int32} (h : f k = v) : Fc f (false, [(k, v)]) := ⟨fun h => Bool.noConfusion h, fun _ p hp => by rw [List.mem_singleton.mp hp]; exact h⟩
def AJ (L : List Nat) (C : Nat → Nat) (I : hI) (T : hT) : Prop := ∀ q ∈ T, (q.1 ∈ L ∧ C q.1 = q.2.1) ∧ raw q.2.1 = false ∧ Fc (I q.1) q.2.2
theorem AJ.nil {L : List Nat} {C : Nat → Nat} {I : hI} : AJ L C I [] := fun _ h => absurd h List.not_mem_nil
theorem AJ.cons {L : List Nat} {C : Nat → Nat} {I : hI} {T : hT} {v r : Nat} {l : Bool × List (Nat × Int32)} (h : AJ L C I T) (m : v ∈ L) (k : C v = r) (hr : raw r = false) (f : Fc (I v) l) : AJ L C I ((v, r, l) :: T) := List.forall_mem_cons.mpr ⟨⟨⟨m, k⟩, hr, f⟩, h⟩
theorem AJ.con0 {L : List Nat} {C : Nat → Nat} {I : hI} {T : hT} {v r : Nat} (h : AJ L C I T) (m : v ∈ L) (k : C v = r) (hr : raw r = false) : AJ L C I ((v, r, (false, [])) :: T) := h.cons m k hr Fc.nil
theorem AJ.at {L : List Nat} {C : Nat → Nat} {I : hI} {T : hT} (h : AJ L C I T) {i : Nat} {q : hE} (e : T[i]? = some q) : q.1 ∈ L ∧ C q.1 = q.2.1 := (h _ (List.mem_of_getElem? e)).1
theorem AJ.val {L : List Nat} {C : Nat → Nat} {I : hI} {T : hT} (h : AJ L C I T) {i : Nat} {q : hE} (e : T[i]? = some q) : Fc (I q.1) q.2.2 := (h _ (List.mem_of_getElem? e)).2.2
theorem AJ.pick {L : List Nat} {C : Nat → Nat} {I : hI} {T T1 : hT} (h1 : AJ L C I T1) (h : AJ L C I T) {i : Nat} {q : hE} (e : T[i]? = some q) : AJ L C I (q :: T1) := List.forall_mem_cons.mpr ⟨h _ (List.mem_of_getElem? e), h1⟩
theorem AJ.app {L : List Nat} {C : Nat → Nat} {I : hI} {T T1 : hT} (h : AJ L C I T) (h1 : AJ L C I T1) : AJ L C I (T ++ T1) := fun x hx => (List.mem_append.mp hx).elim (h x) (h1 x)
theorem AJ.new {L L1 : List Nat} {C C1 : Nat → Nat} {I I1 : hI} {T : hT} {q r : Nat} (h : AJ L C I T) (g : Gw L C L1 C1 q r) (eI : I1 = va_up I q (fun _ => 0)) : AJ L1 C1 I1 T := fun x hx => by
  obtain ⟨⟨a, b⟩, c, d⟩ := h x hx
  refine ⟨⟨g.mem a, g.role a b⟩, c, ?_⟩
  rw [eI, va_up_ne _ _ (g.ne a)]
  exact d
theorem AJ.ne {L : List Nat} {C : Nat → Nat} {I : hI} {T : hT} {q r0 : Nat} (h : AJ L C I T) (hC : C q = r0) (hr : raw r0 = true) {x : hE} (hx : x ∈ T) : x.1 ≠ q := fun e => by
  obtain ⟨⟨a, b⟩, c, d⟩ := h x hx
  rw [e, hC] at b
  rw [← b, hr] at c
  cases c
theorem AJ.stI {L : List Nat} {C : Nat → Nat} {I I1 : hI} {T : hT} {q j r : Nat} {v : Int32} (h : AJ L C I T) (hC : C q = r) (hr : raw r = true) (e : I1 = u2 I q j v) : AJ L C I1 T := fun x hx => by
  obtain ⟨a, c, d⟩ := h x hx
  refine ⟨a, c, ?_⟩
  rw [e, u2_ne (h.ne hC hr hx)]
  exact d
theorem AJ.rel {L : List Nat} {C : Nat → Nat} {I : hI} {T : hT} {q r0 r : Nat} (h : AJ L C I T) (hC : C q = r0) (hr : raw r0 = true) : AJ L (va_up C q r) I T := fun x hx => by
  obtain ⟨⟨a, b⟩, c, d⟩ := h x hx
  exact ⟨⟨a, by rw [va_up_ne _ _ (h.ne hC hr hx)]; exact b⟩, c, d⟩
theorem AJ.sm {L : List Nat} {C : Nat → Nat} {T : hT} {ms : List Nat} {u v : hU} (h : AJ L C u.1 T) (s : Sm C ms u v) (hm : T.all (fun x => cond x.2.2.1 (Nat.ble 32 x.2.1 && !ms.contains (x.2.1 * 64)) (x.2.2.2.all (fun p => !ms.contains (mC x.2.1 p.1)))) = true) : AJ L C v.1 T := fun x hx => by
  obtain ⟨⟨a, b⟩, c, d1, d2⟩ := h x hx
  have h0 := List.all_eq_true.mp hm x hx
  refine ⟨⟨a, b⟩, c, fun e => ?_, fun e p hp => ?_⟩
  · rw [← d1 e]
    rw [e] at h0
    simp only [cond_true, Bool.and_eq_true, Nat.ble_eq, Bool.not_eq_true'] at h0
    exact funext fun k => (s x.1 k (by rw [b]; exact nm_arr h0.1 h0.2)).1
  · rw [e] at h0
    have h1 := List.all_eq_true.mp h0 p hp
    have h2 : mC (C x.1) p.1 ∉ ms := by
      rw [b]
      intro q
      have : ms.contains (mC x.2.1 p.1) = true := by simpa using q
      rw [this] at h1
      cases h1
    rw [(s x.1 p.1 h2).1]
    exact d2 e p hp
theorem AJ.old {L L1 : List Nat} {C C1 : Nat → Nat} {I I1 : hI} {J J1 : hJ} {R R1 : hR} {T : hT} {q r0 : Nat} (h : AJ L C I T) (o : Old L C (I, J, R) q L1 C1 I1 J1 R1) (hC : C q = r0) (hr : raw r0 = true) : AJ L1 C1 I1 T := fun x hx => by
  obtain ⟨⟨a, b⟩, c, d⟩ := h x hx
  obtain ⟨o1, o2⟩ := o _ a
  obtain ⟨o3, o4, -, -⟩ := o2 (h.ne hC hr hx)
  exact ⟨⟨o1, o3.trans b⟩, c, by rw [o4]; exact d⟩
/-- ints that are 0 at the start -/
def ivF : List (Nat × Nat) := [(8, 2), (7, 1), (0, 1), (4, 3), (4, 4), (11, 18), (11, 21), (11, 29), (11, 30)]
def ivA : List Nat := [40, 41, 48, 70, 72, 79, 80, 82]
def iv (r k : Nat) : Bool := if r < 32 then ivF.any (fun q => Nat.beq q.1 r && Nat.beq q.2 k) else ivA.contains r
theorem iv_raw {r : Nat} (h : raw r = true) (k : Nat) : iv r k = false := by
  rcases raw_or h with h | h | h | h | h | h | h | h | h | h | h | h | h | h | h | h | h | h | h | h | h | h | h <;> subst h <;> rfl
def ivC (r : Nat) (l : List (Nat × Int32)) : Bool := if r < 32 then ivF.all (fun q => !(Nat.beq q.1 r) || (il l q.2 == 0)) else !ivA.contains r
theorem iv_il {r q : Nat} {l : List (Nat × Int32)} {I : hI} (h : ivC r l = true) (e : I q = il l) (k : Nat) (hk : iv r k = true) : I q k = 0 := by
  rw [e]
  unfold ivC at h
  unfold iv at hk
  split at h
  · rename_i hr
    rw [if_pos hr] at hk
    obtain ⟨p, hp, h2⟩ := List.any_eq_true.mp hk
    simp only [Bool.and_eq_true, Nat.beq_eq] at h2
    have h3 := List.all_eq_true.mp h p hp
    rw [h2.1, h2.2] at h3
    simpa using h3
  · rename_i hr
    rw [if_neg hr] at hk
    rw [hk] at h
    cases h
def Z0 (L : List Nat) (C : Nat → Nat) (I : hI) (J : hJ) : Prop := (∀ a ∈ L, ∀ k, iv (C a) k = true → I a k = 0) ∧ ∀ a ∈ L, ∀ k, J a k = 0
theorem Z0.new {L L1 : List Nat} {C C1 : Nat → Nat} {I I1 : hI} {J J1 : hJ} {q r : Nat} (h : Z0 L C I J) (g : Gw L C L1 C1 q r) (eI : I1 = va_up I q (fun _ => 0)) (eJ : J1 = va_up J q (fun _ => 0)) : Z0 L1 C1 I1 J1 := by
  refine ⟨fun a ha k hk => ?_, fun a ha k => ?_⟩
  · rcases g.cases ha with h1 | rfl
    · rw [g.keep h1] at hk
      rw [eI, va_up_ne _ _ (g.ne h1)]
      exact h.1 a h1 k hk
    · rw [eI, va_up_self]
  · rcases g.cases ha with h1 | rfl
    · rw [eJ, va_up_ne _ _ (g.ne h1)]
      exact h.2 a h1 k
    · rw [eJ, va_up_self]
theorem Z0.stI {L : List Nat} {C : Nat → Nat} {I I1 : hI} {J : hJ} {q j r : Nat} {v : Int32} (h : Z0 L C I J) (hC : C q = r) (hr : raw r = true) (e1 : I1 = u2 I q j v) : Z0 L C I1 J := ⟨fun a ha k hk => by
  have ne : a ≠ q := fun e => by rw [e, hC, iv_raw hr] at hk; cases hk
  rw [e1, u2_ne ne]
  exact h.1 a ha k hk, h.2⟩
theorem Z0.stJ {L : List Nat} {C : Nat → Nat} {I : hI} {J J1 : hJ} {q j : Nat} (h : Z0 L C I J) (e1 : J1 = u2 J q j 0) : Z0 L C I J1 := ⟨h.1, fun a ha k => by
  rw [e1]
  by_cases e : a = q
  · subst e
    by_cases e2 : k = j
    · subst e2; rw [u2_at]
    · rw [u2_nk e2]; exact h.2 a ha k
  · rw [u2_ne e]; exact h.2 a ha k⟩
theorem Z0.rel {L : List Nat} {C : Nat → Nat} {I : hI} {J : hJ} {q r : Nat} (h : Z0 L C I J) (hz : ∀ k, iv r k = true → I q k = 0) : Z0 L (va_up C q r) I J := ⟨fun a ha k hk => by
  by_cases e : a = q
  · subst e; rw [va_up_self] at hk; exact hz k hk
  · rw [va_up_ne _ _ e] at hk; exact h.1 a ha k hk, h.2⟩
def ivOk (ms : List Nat) : Bool := ivA.all (fun r => !ms.contains (r * 64)) && ivF.all (fun q => !ms.contains (mC q.1 q.2))
theorem Z0.sm {L : List Nat} {C : Nat → Nat} {ms : List Nat} {u v : hU} (h : Z0 L C u.1 u.2.1) (s : Sm C ms u v) (hJ : v.2.1 = u.2.1) (hm : ivOk ms = true) : Z0 L C v.1 v.2.1 := by
  refine ⟨fun a ha k hk => ?_, by rw [hJ]; exact h.2⟩
  have hn : mC (C a) k ∉ ms := by
    simp only [ivOk, Bool.and_eq_true] at hm
    have hk0 := hk
    unfold iv at hk
    split at hk
    · obtain ⟨p, hp, h2⟩ := List.any_eq_true.mp hk
      simp only [Bool.and_eq_true, Nat.beq_eq] at h2
      have h3 := List.all_eq_true.mp hm.2 p hp
      rw [h2.1, h2.2] at h3
      intro q
      have : ms.contains (mC (C a) k) = true := by simpa using q
      rw [this] at h3
      cases h3
    · rename_i hr
      have h3 := List.all_eq_true.mp hm.1 (C a) (by simpa using hk)
      exact nm_arr (by omega) (by simpa using h3)
  rw [(s a k hn).1]
  exact h.1 a ha k hk
/-- owners: shapes, their members, their rows -/
def ow (r i : Nat) : Bool := (Nat.beq r 57 && Nat.blt i 20) || (Nat.beq r 7 && Nat.beq i 0) || (Nat.beq r 56 && Nat.blt i 6) || (Nat.beq r 5 && (Nat.beq i 3 || Nat.beq i 7))
theorem ow_raw {r : Nat} (h : raw r = true) (k : Nat) : ow r k = false := by
  rcases raw_or h with h | h | h | h | h | h | h | h | h | h | h | h | h | h | h | h | h | h | h | h | h | h | h <;> subst h <;> rfl
theorem ow_or {r i : Nat} (h : ow r i = true) : (r = 57 ∧ i < 20) ∨ (r = 7 ∧ i = 0) ∨ (r = 56 ∧ i < 6) ∨ (r = 5 ∧ i = 3) ∨ (r = 5 ∧ i = 7) := by
  simp only [ow, Bool.or_eq_true, Bool.and_eq_true, Nat.beq_eq, Nat.blt_eq] at h
  omega
def Ow (L : List Nat) (C : Nat → Nat) (R : hR) : Prop := ∀ a ∈ L, ∀ b ∈ L, ∀ i j c, C a = C b → ow (C a) i = true → ow (C b) j = true → R a i = some c → R b j = some c → a = b ∧ i = j
theorem Ow.new {L L1 : List Nat} {C C1 : Nat → Nat} {R R1 : hR} {q r : Nat} (h : Ow L C R) (g : Gw L C L1 C1 q r) (eR : R1 = va_up R q (fun _ => none)) : Ow L1 C1 R1 := by
  intro a ha b hb i j c e o1 o2 h1 h2
  have hn : ∀ x ∈ L1, ∀ k d, R1 x k = some d → x ∈ L := fun x hx k d hd => by
    rcases g.cases hx with h3 | rfl
    · exact h3
    · rw [eR, va_up_self] at hd; cases hd
  have la := hn a ha i c h1
  have lb := hn b hb j c h2
  rw [g.keep la, g.keep lb] at e
  rw [g.keep la] at o1
  rw [g.keep lb] at o2
  rw [eR, va_up_ne _ _ (g.ne la)] at h1
  rw [eR, va_up_ne _ _ (g.ne lb)] at h2
  exact h a la b lb i j c e o1 o2 h1 h2
theorem Ow.stR {L : List Nat} {C : Nat → Nat} {R R1 : hR} {q k r : Nat} {v : Option Nat} (h : Ow L C R) (hC : C q = r) (hr : raw r = true) (e1 : R1 = u2 R q k v) : Ow L C R1 := by
  subst e1
  intro a ha b hb i j c e o1 o2 h1 h2
  rw [u2_ne (fun e => by rw [e, hC, ow_raw hr] at o1; cases o1)] at h1
  rw [u2_ne (fun e => by rw [e, hC, ow_raw hr] at o2; cases o2)] at h2
  exact h a ha b hb i j c e o1 o2 h1 h2
theorem Ow.rel0 {L : List Nat} {C : Nat → Nat} {R : hR} {q r : Nat} (h : Ow L C R) (hn : ∀ i, ow r i = false) : Ow L (va_up C q r) R := by
  intro a ha b hb i j c e o1 o2 h1 h2
  have na : a ≠ q := fun e => by rw [e, va_up_self, hn] at o1; cases o1
  have nb : b ≠ q := fun e => by rw [e, va_up_self, hn] at o2; cases o2
  rw [va_up_ne _ _ na] at o1 e
  rw [va_up_ne _ _ nb] at o2 e
  exact h a ha b hb i j c e o1 o2 h1 h2
theorem Ow.relO {L : List Nat} {C : Nat → Nat} {R : hR} {q r : Nat} (h : Ow L C R) (hi : ∀ i j c, ow r i = true → ow r j = true → R q i = some c → R q j = some c → i = j) (ho : ∀ b ∈ L, C b = r → ∀ i j c, ow r i = true → ow r j = true → R b i = some c → R q j = some c → False) : Ow L (va_up C q r) R := by
  intro a ha b hb i j c e o1 o2 h1 h2
  by_cases na : a = q <;> by_cases nb : b = q
  · subst na; subst nb
    rw [va_up_self] at o1 o2
    exact ⟨rfl, hi i j c o1 o2 h1 h2⟩
  · subst na
    rw [va_up_self] at o1 e
    rw [va_up_ne _ _ nb] at o2 e
    rw [← e] at o2
    exact (ho b hb e.symm j i c o2 o1 h2 h1).elim
  · subst nb
    rw [va_up_self] at o2 e
    rw [va_up_ne _ _ na] at o1 e
    rw [e] at o1
    exact (ho a ha e i j c o1 o2 h1 h2).elim
  · rw [va_up_ne _ _ na] at o1 e
    rw [va_up_ne _ _ nb] at o2 e
    exact h a ha b hb i j c e o1 o2 h1 h2
theorem Ow.sm {L : List Nat} {C : Nat → Nat} {ms : List Nat} {u v : hU} (h : Ow L C u.2.2) (s : Sm C ms u v) (hm : [57 * 64, 7 * 64, 56 * 64, 5 * 64 + 3, 5 * 64 + 7].all (fun x => !ms.contains x) = true) : Ow L C v.2.2 := by
  have key : ∀ a i, ow (C a) i = true → v.2.2 a i = u.2.2 a i := fun a i o => by
    refine (s a i ?_).2.2
    simp only [List.all_cons, List.all_nil, Bool.and_true, Bool.and_eq_true, Bool.not_eq_true'] at hm
    intro q
    have hq : ms.contains (mC (C a) i) = true := by simpa using q
    rcases ow_or o with ⟨e, h⟩ | ⟨e, h⟩ | ⟨e, h⟩ | ⟨e, h⟩ | ⟨e, h⟩ <;> rw [e] at hq
    · rw [show mC 57 i = 57 * 64 from rfl, hm.1] at hq; cases hq
    · rw [h, show mC 7 0 = 7 * 64 from rfl, hm.2.1] at hq; cases hq
    · rw [show mC 56 i = 56 * 64 from rfl, hm.2.2.1] at hq; cases hq
    · rw [h, show mC 5 3 = 5 * 64 + 3 from rfl, hm.2.2.2.1] at hq; cases hq
    · rw [h, show mC 5 7 = 5 * 64 + 7 from rfl, hm.2.2.2.2] at hq; cases hq
  intro a ha b hb i j c e o1 o2 h1 h2
  rw [key a i o1] at h1
  rw [key b j o2] at h2
  exact h a ha b hb i j c e o1 o2 h1 h2
def Nw (L0 L : List Nat) (C : Nat → Nat) (Rs : List Nat) : Prop := ∀ b ∈ L, b ∈ L0 ∨ Rs.contains (C b) = true
theorem Nw.rf {L : List Nat} {C : Nat → Nat} : Nw L L C [] := fun _ h => Or.inl h
theorem Nw.new {L0 L L1 : List Nat} {C C1 : Nat → Nat} {Rs : List Nat} {q r : Nat} (h : Nw L0 L C Rs) (g : Gw L C L1 C1 q r) : Nw L0 L1 C1 (r :: Rs) := fun b hb => by
  rcases g.cases hb with h1 | rfl
  · rw [g.keep h1]
    exact (h b h1).imp id (fun h => by simp only [List.contains_cons, h, Bool.or_true])
  · rw [g.at]; exact Or.inr (by simp)
theorem Nw.rel {L0 L : List Nat} {C : Nat → Nat} {Rs : List Nat} {q r : Nat} (h : Nw L0 L C Rs) : Nw L0 L (va_up C q r) (r :: Rs) := fun b hb => by
  by_cases e : b = q
  · subst e; rw [va_up_self]; exact Or.inr (by simp)
  · rw [va_up_ne _ _ e]
    exact (h b hb).imp id (fun h => by simp only [List.contains_cons, h, Bool.or_true])
theorem Nw.wS {L0 L : List Nat} {C : Nat → Nat} {Rs Rs1 : List Nat} (h : Nw L0 L C Rs) (hs : Rs.all (fun r => Rs1.contains r) = true) : Nw L0 L C Rs1 := fun b hb => (h b hb).imp id (fun h => List.all_eq_true.mp hs _ (by simpa using h))
theorem Nw.ctor {L0 L L1 : List Nat} {C C1 : Nat → Nat} {I I1 : hI} {J J1 : hJ} {R R1 : hR} {Rs Rs1 : List Nat} {q r : Nat} (h : Nw L0 L C Rs) (o : Old L C (I, J, R) q L1 C1 I1 J1 R1) (h1 : Nw L L1 C1 Rs1) (hq : C1 q = r) : Nw L0 L1 C1 (r :: (Rs1 ++ Rs)) := fun b hb => by
  rcases h1 b hb with h2 | h2
  · by_cases e : b = q
    · subst e; rw [hq]; exact Or.inr (by simp)
    · rw [((o b h2).2 e).1]
      refine (h b h2).imp id (fun h => ?_)
      have h3 : C b ∈ Rs := by simpa using h
      simp [h3]
  · refine Or.inr ?_
    have h3 : C1 b ∈ Rs1 := by simpa using h2
    simp [h3]
theorem own_old {L0 L : List Nat} {C0 C : Nat → Nat} {I0 I : hI} {J0 J : hJ} {R0 R : hR} {a0 r0 r : Nat} {Rs : List Nat} (ok : OkR L0 C0 R0) (old : Old L0 C0 (I0, J0, R0) a0 L C I J R) (k0 : C a0 = r0) (hr0 : raw r0 = true) (nw : Nw L0 L C Rs) (hr : Rs.contains r = false) : ∀ b ∈ L, C b = r → ∀ i c, ow r i = true → R b i = some c → c ∈ L0 := by
  intro b hb hC i c o hc
  have b0 : b ∈ L0 := (nw b hb).elim id (fun h => by rw [hC, hr] at h; cases h)
  have ne : b ≠ a0 := fun e => by rw [← hC, e, k0, ow_raw hr0] at o; cases o
  obtain ⟨-, o2⟩ := old b b0
  obtain ⟨o3, -, -, o4⟩ := o2 ne
  have hx : i < rN (C0 b) ∧ rR (C0 b) i ≠ 0 := by
    rw [← o3, hC]
    rcases ow_or o with ⟨e, h⟩ | ⟨e, h⟩ | ⟨e, h⟩ | ⟨e, h⟩ | ⟨e, h⟩ <;> subst e
    · exact ⟨h, by show (8 : Nat) ≠ 0; decide⟩
    · subst h; exact ⟨by decide, by decide⟩
    · exact ⟨h, by show (6 : Nat) ≠ 0; decide⟩
    · subst h; exact ⟨by decide, by decide⟩
    · subst h; exact ⟨by decide, by decide⟩
  obtain ⟨d, d1, d2, -⟩ := ok b b0 i hx.1 hx.2
  have hc : R0 b i = some c := by rw [o4] at hc; exact hc
  rw [d2] at hc
  exact Option.some.inj hc ▸ d1
theorem own_inj {R : hR} {q n : Nat} {l : List Nat} (hl : l.length = n) (nd : l.Nodup) (e : ∀ i, i < n → R q i = l[n - 1 - i]?) {i j c : Nat} (hi : i < n) (hj : j < n) (h1 : R q i = some c) (h2 : R q j = some c) : i = j := by
  rw [e i hi] at h1
  rw [e j hj] at h2
  have := (List.getElem?_inj (by omega) nd).mp (h1.trans h2.symm)
  omega
def NL (L l : List Nat) : Prop := l.Nodup ∧ ∀ x ∈ l, x ∈ L
theorem NL.nil {L : List Nat} : NL L [] := ⟨List.nodup_nil, fun _ h => absurd h List.not_mem_nil⟩
theorem NL.new {L L1 l : List Nat} {C C1 : Nat → Nat} {q r : Nat} (h : NL L l) (g : Gw L C L1 C1 q r) : NL L1 l := ⟨h.1, fun x hx => g.mem (h.2 x hx)⟩
theorem NL.push {L L1 l : List Nat} {C C1 : Nat → Nat} {q r : Nat} (h : NL L l) (g : Gw L C L1 C1 q r) : NL L1 (q :: l) := ⟨List.nodup_cons.mpr ⟨fun hq => g.2.2 (h.2 q hq), h.1⟩, List.forall_mem_cons.mpr ⟨g.new, (h.new g).2⟩⟩
theorem NL.old {L L1 l : List Nat} {C C1 : Nat → Nat} {I I1 : hI} {J J1 : hJ} {R R1 : hR} {q : Nat} (h : NL L l) (o : Old L C (I, J, R) q L1 C1 I1 J1 R1) : NL L1 l := ⟨h.1, fun x hx => (o x (h.2 x hx)).1⟩
