/-! cells and frames -/
theorem nm_obj {r k : Nat} {ms : List Nat} (h : ms.contains (mC r k) = false) : mC r k ∉ ms := fun q => by
  have : ms.contains (mC r k) = true := by simpa using q
  rw [h] at this
  cases this
def At (L : List Nat) (C : Nat → Nat) (R : hR) (p k b r : Nat) : Prop := b ∈ L ∧ C b = r ∧ R p k = some b
theorem At.sm {L : List Nat} {C : Nat → Nat} {ms : List Nat} {u v : hU} {p k b r q : Nat} (h : At L C u.2.2 p k b r) (s : Sm C ms u v) (hp : C p = q) (hm : ms.contains (mC q k) = false) : At L C v.2.2 p k b r := ⟨h.1, h.2.1, by rw [(s p k (by rw [hp]; exact nm_obj hm)).2.2]; exact h.2.2⟩
theorem smA {C : Nat → Nat} {ms : List Nat} {u v : hU} {b r : Nat} (s : Sm C ms u v) (hb : C b = r) (hr : 32 ≤ r) (hm : ms.contains (r * 64) = false) : v.1 b = u.1 b := funext fun k => (s b k (by rw [hb]; exact nm_arr hr hm)).1
theorem smO {C : Nat → Nat} {ms : List Nat} {u v : hU} {b r k : Nat} (s : Sm C ms u v) (hb : C b = r) (hm : ms.contains (mC r k) = false) : v.1 b k = u.1 b k := (s b k (by rw [hb]; exact nm_obj hm)).1
theorem up_at {f : Nat → Int32} {k : Nat} {v : Int32} : up f k v k = v := by simp [up]
theorem up_ne {f : Nat → Int32} {k j : Nat} {v : Int32} (h : j ≠ k) : up f k v j = f j := by simp [up, h]
theorem up_up {f : Nat → Int32} {k : Nat} {u v : Int32} : up (up f k u) k v = up f k v := by
  funext j
  by_cases h : j = k
  · subst h; rw [up_at, up_at]
  · rw [up_ne h, up_ne h, up_ne h]
theorem pairE {α : Type} {a b : α} {i i1 : hI} {j j1 : hJ} {r r1 : hR} (h : (a, (i, j, r)) = (b, (i1, j1, r1))) : a = b ∧ i = i1 ∧ j = j1 ∧ r = r1 := by
  cases h
  exact ⟨rfl, rfl, rfl, rfl⟩
