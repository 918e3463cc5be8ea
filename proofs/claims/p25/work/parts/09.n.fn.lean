/-! the functions of the methods: what a method does to the pool, as a term -/
abbrev nm {α β : Type} (a : α) (f : α → β) : β := f a
abbrev nmU {α β : Type} (p : α × hU) (f : α → hI → hJ → hR → β) : β := f p.1 p.2.1 p.2.2.1 p.2.2.2
abbrev nmW {β : Type} (p : hU) (f : hI → hJ → hR → β) : β := f p.1 p.2.1 p.2.2
theorem fnS {α β : Type} {T : β} {a b : α} {f : α → β} (h : T = nm a f) (e : b = a) : T = f b := by rw [e]; exact h
theorem fnR {β : Type} {T : β} {o : Option Nat} {b : Nat} {f : Nat → β} (h : T = nm (o.getD 0) f) (e : o = some b) : T = f b := by rw [e] at h; exact h
theorem fnP {β : Type} {T a b : β} {c : Prop} [Decidable c] (h : T = if c then a else b) (hc : c) : T = a := by rw [if_pos hc] at h; exact h
theorem fnN {β : Type} {T a b : β} {c : Prop} [Decidable c] (h : T = if c then a else b) (hc : ¬ c) : T = b := by rw [if_neg hc] at h; exact h
theorem fnC {α β : Type} {T : β} {p : α × hU} {f : α → hI → hJ → hR → β} {r : α} {i : hI} {j : hJ} {k : hR} (h : T = nmU p f) (e : p = (r, (i, j, k))) : T = f r i j k := by rw [e] at h; exact h
theorem fnW {β : Type} {T : β} {p : hU} {f : hI → hJ → hR → β} {i : hI} {j : hJ} {k : hR} (h : T = nmW p f) (e : p = (i, j, k)) : T = f i j k := by rw [e] at h; exact h
