def fTs : List (List Nat) := [[2, 0], [2, 2, 2, 2, 2, 2, 2, 0, 2, 2, 1], [2, 2], [2, 2, 2, 2, 0, 0, 2], [1, 0, 0, 0, 0], [0, 0, 0, 2, 0, 0, 0, 2], [2, 2, 2, 2, 2, 2, 0, 0, 2, 2, 1, 0], [2, 0], [2, 2, 0], [2, 2, 2, 2, 0, 0, 2], [2, 2, 2, 2, 2, 2, 2, 2, 2], [0, 0, 2, 2, 2, 2, 2, 2, 2, 2, 2, 2, 2, 2, 2, 2, 2, 2, 0, 2, 2, 0, 2, 2, 2, 1, 0, 0, 0, 0, 0, 1, 2, 2, 2, 2, 2, 1, 2, 2, 0, 0, 0, 2, 2, 2, 2, 0, 2, 0, 2, 2, 2, 2, 1, 1]]
def arK : List Nat := [12, 12, 12, 12, 12, 14, 12, 12, 12, 14, 13, 12, 12, 12, 12, 12, 12, 13, 13, 15, 12, 13, 12, 12, 15, 16, 15, 15, 16, 12, 12, 12, 12, 12, 12, 12, 12, 14, 12, 12, 12, 12, 12, 12, 12, 12, 12, 14, 14, 13, 12, 13, 13, 12, 12, 12, 12, 12, 12, 12, 12, 12, 12, 12, 12, 12, 12, 13, 13]
def arN : List Nat := [32, 32, 32, 32, 32, 32, 49, 49, 30, 7, 7, 4, 4, 100, 10, 10, 20, 60, 4, 11, 40, 4, 4, 4, 6, 20, 6, 11, 20, 0, 0, 0, 32, 32, 32, 32, 32, 32, 20, 120, 120, 480, 120, 120, 120, 120, 480, 10000, 7, 7, 20, 60, 4, 49, 49, 294, 49, 294, 4, 4, 4, 100, 1000, 100, 10, 11, 44, 4, 4]
def arLo : List Int := [0, 0, 0, -1000, -1000, 0, -2147483648, -1, -2147483648, 0, -2147483648, 0, 0, -2147483648, -2147483648, 0, 0, -2147483648, -2147483648, -2147483648, 0, -2147483648, 0, -1000, -2147483648, -2147483648, -2147483648, -2147483648, -2147483648, 0, 0, 0, 0, 0, 0, -1000, -1000, 0, 0, 0, 0, 0, 0, 0, -1, -2147483648, -1000, 0, 0, -2147483648, 0, -2147483648, -2147483648, -2147483648, 0, 0, -2147483648, 0, 0, 0, 0, -2147483648, 0, -2147483648, 0, 0, 0, -2147483648, -2147483648]
def arHi : List Int := [6, 6, 50, 1000, 1000, 1, 2147483647, 31, 2147483647, 1, 2147483647, 9, 9, 2147483647, 2147483647, 9, 9, 2147483647, 2147483647, 2147483647, 9, 2147483647, 6, 1000, 2147483647, 2147483647, 2147483647, 2147483647, 2147483647, 0, 0, 0, 6, 6, 50, 1000, 1000, 1, 6, 99, 4, 6, 6, 2, 2, 2147483647, 1000, 1, 1, 2147483647, 9, 2147483647, 2147483647, 2147483647, 6, 31, 2147483647, 31, 4, 4, 4, 2147483647, 9, 2147483647, 9, 119, 4, 2147483647, 2147483647]
def arT : List Nat := [0, 0, 0, 0, 0, 0, 0, 0, 0, 0, 0, 0, 0, 0, 0, 0, 0, 0, 0, 6, 0, 0, 0, 0, 6, 8, 0, 0, 0, 0, 0, 0, 0, 0, 0, 0, 0, 0, 0, 0, 0, 0, 0, 0, 0, 0, 0, 0, 0, 0, 0, 0, 0, 0, 0, 0, 0, 0, 0, 0, 0, 0, 0, 0, 0, 0, 0, 0, 0]
def obLo : List (List Int) := [[0, 0], [0, 0, 0, 0, 0, 0, 0, 0, 0, 0, -2147483648], [0, 0], [0, 0, 0, 0, -2147483648, -1, 0], [-2147483648, -2147483648, -2147483648, -2147483648, -2147483648], [0, 0, 0, 0, 0, -1, -2147483648, 0], [0, 0, 0, 0, 0, 0, 0, -2147483648, 0, 0, -2147483648, -2147483648], [0, 0], [0, 0, 0], [0, 0, 0, 0, -2147483648, 0, 0], [0, 0, 0, 0, 0, 0, 0, 0, 0], [-2147483648, 0, 0, 0, 0, 0, 0, 0, 0, 0, 0, 0, 0, 0, 0, 0, 0, 0, -2147483648, 0, 0, 0, 0, 0, 0, -2147483648, 0, -2147483648, -2147483648, -2147483648, -2147483648, -2147483648, 0, 0, 0, 0, 0, -2147483648, 0, 0, -2147483648, -2147483648, 0, 0, 0, 0, 0, 0, 0, 0, 0, 0, 0, 0, -2147483648, -2147483648]]
def obHi : List (List Int) := [[0, 30], [0, 0, 0, 0, 0, 0, 0, 10, 0, 0, 2147483647], [0, 0], [0, 0, 0, 0, 2147483647, 5, 0], [2147483647, 2147483647, 2147483647, 2147483647, 2147483647], [99, 6, 4, 0, 2, 2, 2147483647, 0], [0, 0, 0, 0, 0, 0, 32, 2147483647, 0, 0, 2147483647, 2147483647], [0, 6], [0, 0, 20], [0, 0, 0, 0, 2147483647, 10, 0], [0, 0, 0, 0, 0, 0, 0, 0, 0], [2147483647, 32, 0, 0, 0, 0, 0, 0, 0, 0, 0, 0, 0, 0, 0, 0, 0, 0, 2147483647, 0, 0, 20, 0, 0, 0, 2147483647, 1, 2147483647, 2147483647, 2147483647, 2147483647, 2147483647, 0, 0, 0, 0, 0, 2147483647, 0, 0, 2147483647, 2147483647, 5, 0, 0, 0, 0, 10, 0, 11, 0, 0, 0, 0, 2147483647, 2147483647]]
def obT : List (List Nat) := [[41, 0], [7, 3, 4, 5, 51, 52, 53, 0, 54, 54, 0], [42, 43], [7, 1, 3, 44, 0, 0, 45], [0, 0, 0, 0, 0], [0, 0, 0, 55, 0, 0, 0, 56], [33, 34, 35, 36, 37, 38, 0, 0, 39, 40, 0, 0], [57, 0], [49, 50, 0], [4, 58, 46, 47, 0, 0, 48], [7, 1, 3, 4, 58, 10, 9, 5, 2], [0, 0, 65, 66, 67, 68, 69, 70, 71, 72, 73, 74, 75, 76, 77, 78, 79, 80, 0, 81, 82, 0, 83, 84, 85, 0, 0, 0, 0, 0, 0, 0, 86, 87, 88, 89, 90, 0, 91, 92, 0, 0, 0, 93, 94, 95, 96, 0, 97, 0, 98, 99, 100, 101, 0, 0]]
abbrev hI : Type := Nat → Nat → Int32
abbrev hJ : Type := Nat → Nat → Int64
abbrev hR : Type := Nat → Nat → Option Nat
abbrev hU : Type := hI × hJ × hR
/-- kind of a role: 0..11 an object of that class, 12 int[], 13 long[], 14 boolean[], 15 Member[], 16 Shape[] -/
def rT (r : Nat) : Nat := if r < 16 then r else if r < 32 then r - 16 else arK.getD (r - 32) 12
def nF (ci : Nat) : Nat := (fTs.getD ci []).length
def fT (ci k : Nat) : Nat := (fTs.getD ci []).getD k 0
def rN (r : Nat) : Nat := if r < 32 then nF (rT r) else arN.getD (r - 32) 0
def rLo (r k : Nat) : Int := if r < 12 then (obLo.getD r []).getD k 0 else if r < 32 then -2147483648 else arLo.getD (r - 32) 0
def rHi (r k : Nat) : Int := if r < 12 then (obHi.getD r []).getD k 0 else if r < 32 then 2147483647 else arHi.getD (r - 32) 0
/-- the role that a reference must have, plus one; 0: any -/
def rR (r k : Nat) : Nat := if r < 12 then (obT.getD r []).getD k 0 else if r < 32 then 0 else arT.getD (r - 32) 0
def rX (r : Nat) : Bool := r == 43 || r == 44 || r == 52
def eF (I : hI) (J : hJ) (R : hR) (a t k : Nat) : Value := if t = 0 then .int (I a k) else if t = 1 then .long (J a k) else va_rf (R a k)
def eO (ci : Nat) (I : hI) (J : hJ) (R : hR) (a : Nat) : List Value := (List.range (nF ci)).map (fun k => eF I J R a (fT ci k) k)
def eE (cy : Nat → ClassId) (C : Nat → Nat) (I : hI) (J : hJ) (R : hR) (a : Nat) : va_E :=
  if rT (C a) = 12 then .inl (cy 0, rN (C a), .inl (I a))
  else if rT (C a) = 13 then .inl (cy 1, rN (C a), .inr (.inl (J a)))
  else if rT (C a) = 14 then .inl (cy 2, rN (C a), .inl (I a))
  else if rT (C a) = 15 then .inl (cy 3, rN (C a), .inr (.inr (.inr (.inr (R a)))))
  else if rT (C a) = 16 then .inl (cy 4, rN (C a), .inr (.inr (.inr (.inr (R a)))))
  else .inr (rT (C a), eO (rT (C a)) I J R a)
def u2 {α : Type} (f : Nat → Nat → α) (a k : Nat) (v : α) : Nat → Nat → α := fun b => if b = a then (fun j => if j = k then v else f a j) else f b
theorem u2_ne {α : Type} {f : Nat → Nat → α} {a b k : Nat} {v : α} (h : b ≠ a) : u2 f a k v b = f b := by simp [u2, h]
theorem u2_eq {α : Type} {f : Nat → Nat → α} {a k : Nat} {v : α} : u2 f a k v a = (fun j => if j = k then v else f a j) := by simp [u2]
theorem u2_at {α : Type} {f : Nat → Nat → α} {a k : Nat} {v : α} : u2 f a k v a k = v := by simp [u2]
theorem u2_nk {α : Type} {f : Nat → Nat → α} {a b k j : Nat} {v : α} (h : j ≠ k) : u2 f a k v b j = f b j := by
  by_cases hb : b = a
  · subst hb; simp [u2, h]
  · simp [u2, hb]
abbrev wd (cy : Nat → ClassId) (L : List Nat) (C : Nat → Nat) (I : hI) (J : hJ) (R : hR) : va_W := va_pl L (eE cy C I J R)
abbrev tysL (cy : Nat → ClassId) : List (ClassId × FieldType) := [(cy 0, .int), (cy 1, .long), (cy 2, .boolean), (cy 3, .object RX5), (cy 4, .object RX7)]
def ZA4 : List (String × List Int32) := [("FROM", [0, 1, 2, 3, 2, 1, 4, 2, 3, 5, 6, 1]), ("TO", [1, 2, 3, 2, 1, 0, 0, 4, 5, 3, 1, 6]), ("COST", [1, 1, 1, 5, 5, 5, 2, 6, 3, 6, 2, 5]), ("BY", [1, 1, 1, 1, 1, 1, 1, 1, 10, 1, 1, 1])]
/-- the static arrays, which nobody writes -/
def ZA (b0 : Nat) (U : State) (H : Heap) : Prop := ∀ q ∈ ZA4, ∃ t : Nat, va_Z RX6 q.1 "[I" (.ref t) (fun q => b0 ≤ q) U H ∧ va_T .int t 12 (fun j => .int (q.2.getD j 0)) (fun q => b0 ≤ q) U H
/-- what else holds of the machine all along -/
def Xt (b0 : Nat) (s : State) (H0 : Heap) : Prop := (∀ w ∈ nestW, va_Nw w s) ∧ (va_AO RX5 s ∧ va_AO RX7 s) ∧ ZA b0 s H0
theorem Xt.go {b0 : Nat} {s U : State} {H0 H1 : Heap} (h : Xt b0 s H0) (hn : ∀ w ∈ nestW, va_Nw w U) (ha : s.vm.Alike U.vm) (hq : ∀ a : Nat, a < H0.size → ¬ b0 ≤ a → H1[a]? = H0[a]?) : Xt b0 U H1 :=
  ⟨hn, ⟨va_AO.moved ha h.2.1.1, va_AO.moved ha h.2.1.2⟩, fun q hq0 => by
    obtain ⟨t, h1, h2⟩ := h.2.2 q hq0
    exact ⟨t, (va_Z.moved ha h1).kept hq, (va_T.moved ha h2).kept hq⟩⟩
/-- the pool stands: D, cy the machine's numbers of classes, L its cells, C their roles, all from b0 on; since H0 nothing below b0 has changed -/
def Hp (D : va_G) (cy : Nat → ClassId) (L : List Nat) (C : Nat → Nat) (b0 : Nat) (s : State) (H0 : Heap) (I : hI) (J : hJ) (R : hR) (H : Heap) (locs : List Loc) : Prop :=
  va_K D vwCl (tysL cy) s ∧ va_P D vwCl (wd cy L C I J R) H ∧ va_D (fun q => b0 ≤ q) (wd cy L C I J R) ∧ va_S (fun q => b0 ≤ q) H0 H locs ∧ b0 ≤ H0.size ∧ Xt b0 s H0
/-- the same, as a method's start has it -/
def PcU (D : va_G) (cy : Nat → ClassId) (L : List Nat) (C : Nat → Nat) (b0 : Nat) (u : hU) (U : State) : Prop :=
  va_K D vwCl (tysL cy) U ∧ va_P D vwCl (wd cy L C u.1 u.2.1 u.2.2) U.heap ∧ va_D (fun q => b0 ≤ q) (wd cy L C u.1 u.2.1 u.2.2) ∧ b0 ≤ U.heap.size ∧ Xt b0 U U.heap
/-- and as its end has it -/
def BcU (D : va_G) (cy : Nat → ClassId) (L : List Nat) (C : Nat → Nat) (b0 : Nat) (u : hU) (t : State) : Prop :=
  va_P D vwCl (wd cy L C u.1 u.2.1 u.2.2) t.heap ∧ va_D (fun q => b0 ≤ q) (wd cy L C u.1 u.2.1 u.2.2)
def rmD (d : Nat) : Room := { frames := d, cells := 0, slots := 0, locals := 60 * d }
abbrev wM (y : MethodName) (cc : ByteArray) (n : Nat) (ret : Option FieldType) : List Cond := Cond.code y cc n ret :: wG
def CI (l : Launch) (y : MethodName) (cc : ByteArray) (n : Nat) (ty : FieldType) (d : Nat) (D : va_G) (cy : Nat → ClassId) (L : List Nat) (C : Nat → Nat) (b0 : Nat) (av : List Value) (u : hU) (post : Int32 → hU → Prop) : Prop :=
  Met l y (wM y cc n (some ty)) (rmD d) (va_Pc av (PcU D cy L C b0 u)) (va_Qi post (BcU D cy L C b0) (fun q => b0 ≤ q)) 0 0 (fun q => b0 ≤ q)
def CJ (l : Launch) (y : MethodName) (cc : ByteArray) (n : Nat) (d : Nat) (D : va_G) (cy : Nat → ClassId) (L : List Nat) (C : Nat → Nat) (b0 : Nat) (av : List Value) (u : hU) (post : Int64 → hU → Prop) : Prop :=
  Met l y (wM y cc n (some .long)) (rmD d) (va_Pc av (PcU D cy L C b0 u)) (va_Ql post (BcU D cy L C b0) (fun q => b0 ≤ q)) 0 0 (fun q => b0 ≤ q)
def CV (l : Launch) (y : MethodName) (cc : ByteArray) (n : Nat) (d : Nat) (D : va_G) (cy : Nat → ClassId) (L : List Nat) (C : Nat → Nat) (b0 : Nat) (av : List Value) (u : hU) (post : hU → Prop) : Prop :=
  Met l y (wM y cc n none) (rmD d) (va_Pc av (PcU D cy L C b0 u)) (va_Qv post (BcU D cy L C b0) (fun q => b0 ≤ q)) 0 0 (fun q => b0 ≤ q)
/-- what stays fixed through a method's body -/
def Fx (p : Program) (s : State) (m : MethodId) (args : Array Value) (meth : Method) (c : Code) (cc : ByteArray) (nL : Nat) (own : String) (ret : Option FieldType) : Prop :=
  p.tables.exec = Jvm.exec ∧ c.code = cc ∧ meth.sig.returnType = ret ∧ c.maxLocals = nL ∧ s.vm.findClass own = some m.cls ∧ (∀ w ∈ wG, w.before args s = true) ∧ meth.locks = false
section POOL
variable {p : Program} {l : Launch} {e : Env} {Rm : Room} {s : State} {m : MethodId} {args : Array Value} {below : List Frame} {meth : Method} {c : Code} {H H0 : Heap} {locs : List Loc} {cells slots : Nat} {Q : State → Prop}
variable {cc : ByteArray} {pc : Nat} {ls : Array Slot} {rest : List Value} {own : String}
variable {D : va_G} {cy : Nat → ClassId} {L : List Nat} {C : Nat → Nat} {b0 : Nat} {I : hI} {J : hJ} {R : hR}
theorem PcU.hp {u : hU} (h : PcU D cy L C b0 u s) : Hp D cy L C b0 s s.heap u.1 u.2.1 u.2.2 s.heap [] := ⟨h.1, h.2.1, h.2.2.1, va_S.rf, h.2.2.2.1, h.2.2.2.2⟩
theorem PcU.blind {av : List Value} {u : hU} : FrameBlind (va_Pc av (PcU D cy L C b0 u)) := fun a U g mk q => by
  obtain ⟨q0, q1, q2, q3, q4, q5⟩ := q
  exact ⟨q0, va_K.moved (u := U) (U := U.calling g mk a) (Vm.Alike.refl U.vm) q1, q2, q3, q4, q5.go (fun w hw => va_Nw.same (u := U) (U := U.calling g mk a) (nestW_on w hw) rfl (q5.1 w hw)) (Vm.Alike.refl U.vm) (fun _ _ _ => rfl)⟩
theorem Hp.pre {u : hU} (hH : Hp D cy L C b0 s H0 u.1 u.2.1 u.2.2 H locs) {U : State} (hU : U.heap = H) (hW : s.WarmedH U.vm) : PcU D cy L C b0 u U :=
  ⟨va_K.moved hW.alike hH.1, by rw [hU]; exact hH.2.1, hH.2.2.1, by rw [hU]; exact Nat.le_trans hH.2.2.2.2.1 hH.2.2.2.1.1, hH.2.2.2.2.2.go (fun w hw => nestW_warm hW w hw (hH.2.2.2.2.2.1 w hw)) hW.alike (fun a h1 h2 => by rw [hU]; exact hH.2.2.2.1.2.1 a h1 h2)⟩
/-- ends -/
theorem retI {post : Int32 → hU → Prop} {v : Int32} (hx : p.tables.exec = Jvm.exec) (hb : c.code = cc) (hr : meth.sig.returnType = some .int) (hlocks : meth.locks = false) (hH : Hp D cy L C b0 s s.heap I J R H locs) (hdg : decode cc pc = .ok (.ireturn, 1)) (hp : post v (I, J, R)) :
    W p l e Rm s m args below meth c H locs 0 0 (MQ below (va_Qi post (BcU D cy L C b0) (fun q => b0 ≤ q)) args s 0 0 (fun q => b0 ≤ q)) (F0 m pc ls [.int v]) :=
  W.iret (v := v) hx hb hr (fun t ht hW => ⟨⟨v, (I, J, R), rfl, hp, by rw [ht]; exact hH.2.1, hH.2.2.1⟩, hH.2.2.2.1.F ht⟩) hH.2.2.2.1.2.2 hdg hlocks
theorem retZ {post : Int32 → hU → Prop} {v : Int32} (hx : p.tables.exec = Jvm.exec) (hb : c.code = cc) (hr : meth.sig.returnType = some .boolean) (hlocks : meth.locks = false) (hv : v = 0 ∨ v = 1) (hH : Hp D cy L C b0 s s.heap I J R H locs) (hdg : decode cc pc = .ok (.ireturn, 1)) (hp : post v (I, J, R)) :
    W p l e Rm s m args below meth c H locs 0 0 (MQ below (va_Qi post (BcU D cy L C b0) (fun q => b0 ≤ q)) args s 0 0 (fun q => b0 ≤ q)) (F0 m pc ls [.int v]) :=
  W.zret (v := v) hx hb hr (by rcases hv with rfl | rfl <;> decide) (fun t ht hW => ⟨⟨v, (I, J, R), rfl, hp, by rw [ht]; exact hH.2.1, hH.2.2.1⟩, hH.2.2.2.1.F ht⟩) hH.2.2.2.1.2.2 hdg hlocks
theorem retJ {post : Int64 → hU → Prop} {v : Int64} (hx : p.tables.exec = Jvm.exec) (hb : c.code = cc) (hr : meth.sig.returnType = some .long) (hlocks : meth.locks = false) (hH : Hp D cy L C b0 s s.heap I J R H locs) (hdg : decode cc pc = .ok (.lreturn, 1)) (hp : post v (I, J, R)) :
    W p l e Rm s m args below meth c H locs 0 0 (MQ below (va_Ql post (BcU D cy L C b0) (fun q => b0 ≤ q)) args s 0 0 (fun q => b0 ≤ q)) (F0 m pc ls [.long v]) :=
  W.lret (v := v) hx hb hr (fun t ht hW => ⟨⟨v, (I, J, R), rfl, hp, by rw [ht]; exact hH.2.1, hH.2.2.1⟩, hH.2.2.2.1.F ht⟩) hH.2.2.2.1.2.2 hdg hlocks
theorem retV {post : hU → Prop} (hx : p.tables.exec = Jvm.exec) (hb : c.code = cc) (hr : meth.sig.returnType = none) (hlocks : meth.locks = false) (hH : Hp D cy L C b0 s s.heap I J R H locs) (hdg : decode cc pc = .ok (.return_, 1)) (hp : post (I, J, R)) :
    W p l e Rm s m args below meth c H locs 0 0 (MQ below (va_Qv post (BcU D cy L C b0) (fun q => b0 ≤ q)) args s 0 0 (fun q => b0 ≤ q)) (F0 m pc ls []) :=
  W.vret hx hb hr (fun t ht hW => ⟨⟨(I, J, R), rfl, hp, by rw [ht]; exact hH.2.1, hH.2.2.1⟩, hH.2.2.2.1.F ht⟩) hH.2.2.2.1.2.2 hdg hlocks
theorem Met.ofWF {y : MethodName} {ws ws' : List Cond} {rm : Room} {Pc : Array Value → State → Prop} {Qc : Array Value → State → Outcome → State → Prop} {mc ms : Nat} {free : Addr → Prop} {cc : ByteArray} {maxL : Nat} {ret : Option FieldType}
    (hy : plainFor y = true) (hw : ws = Cond.code y cc maxL ret :: ws')
    (body : ∀ p e s m args below meth c s₁, BodyLoose p l y (headSpec ws rm) cc maxL ret e s m args below meth c s₁ → c.maxLocals = maxL → Pc args s →
      W p l e (headSpec ws rm).room s m args below meth c s.heap [] 0 0 (MQ below Qc args s mc ms free) (entryFrame m args maxL)) : Met l y ws rm Pc Qc mc ms free := by
  refine MetFree.of_bodySF (code := cc) (maxLocals := maxL) (ret := ret) hy ?_ ?_
  · intro args s m h hn
    obtain ⟨meth, c, h1, h2, h3, h4, h5, h6, -, -⟩ := Cond.code_spec hn (atoms_spec (ws := ws) h _ (by rw [hw]; exact List.mem_cons_self))
    exact ⟨meth, c, h1, h2, h3, h4, h5, h6⟩
  · intro p e s m args below meth c s₁ B hml hP _
    have hh0 : s₁.heap = s.heap := by rw [B.state]; rfl
    obtain ⟨t, a1, o, b1, b2, b3⟩ := body p e s m args below meth c s₁ B hml hP s₁ hh0 (Stand.of_body B)
    exact ⟨t, o, a1, b1, b2, ⟨b3.1, b3.2⟩⟩
theorem CI.mkI {y : MethodName} {n : Nat} {d : Nat} {av : List Value} {u : hU} {post : Int32 → hU → Prop} (hy : plainFor y = true) (hlen : (lg_sl av).length ≤ n)
    (body : ∀ p e s m args below meth c ls Q, Fx p s m args meth c cc n y.cls (some .int) → (∀ (v : Int32) (I : hI) (J : hJ) (R : hR) (H : Heap) (locs : List Loc) (pc : Nat) (ls : Array Slot), decode cc pc = .ok (.ireturn, 1) → Hp D cy L C b0 s s.heap I J R H locs → post v (I, J, R) → W p l e (rmD d) s m args below meth c H locs 0 0 Q (F0 m pc ls [.int v])) → Hp D cy L C b0 s s.heap u.1 u.2.1 u.2.2 s.heap [] → lv_has ls n (lv_args 0 av) →
      W p l e (rmD d) s m args below meth c s.heap [] 0 0 Q (F0 m 0 ls [])) : CI l y cc n .int d D cy L C b0 av u post := by
  refine Met.ofWF (cc := cc) (maxL := n) (ret := some .int) hy rfl ?_
  intro p e s m args below meth c s₁ B hml hv
  obtain ⟨rfl, hv⟩ := hv
  have hts := atoms_spec (ws := wM y cc n (some .int)) B.pre
  rw [lg_entry_eq]
  exact body p e s m _ below meth c _ _ ⟨B.exec, B.bytes, B.returns, hml, findClass_of_methodNamed B.named, fun w h => hts w (List.mem_cons_of_mem _ h), B.notSynchronized⟩ (fun v I J R H locs pc ls hdg hH hp => retI B.exec B.bytes B.returns B.notSynchronized hH hdg hp) hv.hp (lv_entry av hlen)
theorem CI.mkZ {y : MethodName} {n : Nat} {d : Nat} {av : List Value} {u : hU} {post : Int32 → hU → Prop} (hy : plainFor y = true) (hlen : (lg_sl av).length ≤ n)
    (body : ∀ p e s m args below meth c ls Q, Fx p s m args meth c cc n y.cls (some .boolean) → (∀ (v : Int32) (I : hI) (J : hJ) (R : hR) (H : Heap) (locs : List Loc) (pc : Nat) (ls : Array Slot), decode cc pc = .ok (.ireturn, 1) → Hp D cy L C b0 s s.heap I J R H locs → v = 0 ∨ v = 1 → post v (I, J, R) → W p l e (rmD d) s m args below meth c H locs 0 0 Q (F0 m pc ls [.int v])) → Hp D cy L C b0 s s.heap u.1 u.2.1 u.2.2 s.heap [] → lv_has ls n (lv_args 0 av) →
      W p l e (rmD d) s m args below meth c s.heap [] 0 0 Q (F0 m 0 ls [])) : CI l y cc n .boolean d D cy L C b0 av u post := by
  refine Met.ofWF (cc := cc) (maxL := n) (ret := some .boolean) hy rfl ?_
  intro p e s m args below meth c s₁ B hml hv
  obtain ⟨rfl, hv⟩ := hv
  have hts := atoms_spec (ws := wM y cc n (some .boolean)) B.pre
  rw [lg_entry_eq]
  exact body p e s m _ below meth c _ _ ⟨B.exec, B.bytes, B.returns, hml, findClass_of_methodNamed B.named, fun w h => hts w (List.mem_cons_of_mem _ h), B.notSynchronized⟩ (fun v I J R H locs pc ls hdg hH hv hp => retZ B.exec B.bytes B.returns B.notSynchronized hv hH hdg hp) hv.hp (lv_entry av hlen)
theorem CJ.mk {y : MethodName} {n : Nat} {d : Nat} {av : List Value} {u : hU} {post : Int64 → hU → Prop} (hy : plainFor y = true) (hlen : (lg_sl av).length ≤ n)
    (body : ∀ p e s m args below meth c ls Q, Fx p s m args meth c cc n y.cls (some .long) → (∀ (v : Int64) (I : hI) (J : hJ) (R : hR) (H : Heap) (locs : List Loc) (pc : Nat) (ls : Array Slot), decode cc pc = .ok (.lreturn, 1) → Hp D cy L C b0 s s.heap I J R H locs → post v (I, J, R) → W p l e (rmD d) s m args below meth c H locs 0 0 Q (F0 m pc ls [.long v])) → Hp D cy L C b0 s s.heap u.1 u.2.1 u.2.2 s.heap [] → lv_has ls n (lv_args 0 av) →
      W p l e (rmD d) s m args below meth c s.heap [] 0 0 Q (F0 m 0 ls [])) : CJ l y cc n d D cy L C b0 av u post := by
  refine Met.ofWF (cc := cc) (maxL := n) (ret := some .long) hy rfl ?_
  intro p e s m args below meth c s₁ B hml hv
  obtain ⟨rfl, hv⟩ := hv
  have hts := atoms_spec (ws := wM y cc n (some .long)) B.pre
  rw [lg_entry_eq]
  exact body p e s m _ below meth c _ _ ⟨B.exec, B.bytes, B.returns, hml, findClass_of_methodNamed B.named, fun w h => hts w (List.mem_cons_of_mem _ h), B.notSynchronized⟩ (fun v I J R H locs pc ls hdg hH hp => retJ B.exec B.bytes B.returns B.notSynchronized hH hdg hp) hv.hp (lv_entry av hlen)
theorem CV.mk {y : MethodName} {n : Nat} {d : Nat} {av : List Value} {u : hU} {post : hU → Prop} (hy : plainFor y = true) (hlen : (lg_sl av).length ≤ n)
    (body : ∀ p e s m args below meth c ls Q, Fx p s m args meth c cc n y.cls none → (∀ (I : hI) (J : hJ) (R : hR) (H : Heap) (locs : List Loc) (pc : Nat) (ls : Array Slot), decode cc pc = .ok (.return_, 1) → Hp D cy L C b0 s s.heap I J R H locs → post (I, J, R) → W p l e (rmD d) s m args below meth c H locs 0 0 Q (F0 m pc ls [])) → Hp D cy L C b0 s s.heap u.1 u.2.1 u.2.2 s.heap [] → lv_has ls n (lv_args 0 av) →
      W p l e (rmD d) s m args below meth c s.heap [] 0 0 Q (F0 m 0 ls [])) : CV l y cc n d D cy L C b0 av u post := by
  refine Met.ofWF (cc := cc) (maxL := n) (ret := none) hy rfl ?_
  intro p e s m args below meth c s₁ B hml hv
  obtain ⟨rfl, hv⟩ := hv
  have hts := atoms_spec (ws := wM y cc n none) B.pre
  rw [lg_entry_eq]
  exact body p e s m _ below meth c _ _ ⟨B.exec, B.bytes, B.returns, hml, findClass_of_methodNamed B.named, fun w h => hts w (List.mem_cons_of_mem _ h), B.notSynchronized⟩ (fun I J R H locs pc ls hdg hH hp => retV B.exec B.bytes B.returns B.notSynchronized hH hdg hp) hv.hp (lv_entry av hlen)
/-- an object's cell -/
theorem eE_obj {a ci : Nat} (h : rT (C a) = ci) (hc : ci < 12) : eE cy C I J R a = .inr (ci, eO ci I J R a) := by
  subst h
  unfold eE
  rw [if_neg (by omega), if_neg (by omega), if_neg (by omega), if_neg (by omega), if_neg (by omega)]
theorem eO_get {ci a k : Nat} (hk : k < nF ci) : (eO ci I J R a)[k]? = some (eF I J R a (fT ci k) k) := by
  simp [eO, hk]
theorem eO_len {ci a : Nat} : (eO ci I J R a).length = nF ci := by simp [eO]
theorem eO_set {ci a k : Nat} {v : Value} {I1 : hI} {J1 : hJ} {R1 : hR} (hv : eF I1 J1 R1 a (fT ci k) k = v) (hn : ∀ j, j ≠ k → eF I1 J1 R1 a (fT ci j) j = eF I J R a (fT ci j) j) : (eO ci I J R a).set k v = eO ci I1 J1 R1 a := by
  apply List.ext_getElem?
  intro j
  by_cases hj : j < nF ci
  · rw [eO_get hj, List.getElem?_set, eO_len]
    by_cases hk : k = j
    · subst hk; simp [hj, hv]
    · simp [hk, eO_get hj, hn j (fun h => hk h.symm)]
  · have h1 : ((eO ci I J R a).set k v).length ≤ j := by rw [List.length_set, eO_len]; omega
    have h2 : (eO ci I1 J1 R1 a).length ≤ j := by rw [eO_len]; omega
    rw [List.getElem?_eq_none h1, List.getElem?_eq_none h2]
theorem hGet {a ci k idx : Nat} {C0 : String} {T : u_T} {N : Nat} {v : Value} (hx : p.tables.exec = Jvm.exec) (hb : c.code = cc) (hts : ∀ w ∈ wG, w.before args s = true) (hown : s.vm.findClass own = some m.cls) (hH : Hp D cy L C b0 s H0 I J R H locs)
    (hin : ∀ w ∈ u_ws C0 T N, w ∈ wG) (hc : vwCl[ci]? = some (C0, T, N)) (hci : ci < 12) (hN : nF ci = N) (hk : k < N) (hr : (T k).1 = C0) (ha : a ∈ L) (hC : rT (C a) = ci) (hv : eF I J R a (fT ci k) k = v) (hl : Cond.fieldLink own idx C0 (T k).2.1 (T k).2.2.1 ∈ wG) (hdg : decode cc pc = .ok (.getfield idx, 3))
    (kk : W p l e Rm s m args below meth c H locs cells slots Q (F0 m (pc + 3) ls (v :: rest))) : W p l e Rm s m args below meth c H locs cells slots Q (F0 m pc ls (.ref a :: rest)) := by
  obtain ⟨q0, hq⟩ := va_pl_get (X := []) (f := eE cy C I J R) ha
  rw [List.nil_append, eE_obj hC hci] at hq
  exact va_get hx hb hts hin hown hH.1 hH.2.1 q0 hq hc k hk (hts _ hl) (fun _ h => by rw [← hr]; exact h) (by rw [eO_get (by omega), hv]) hdg kk
theorem hPut {a ci k idx : Nat} {C0 : String} {T : u_T} {N : Nat} {v : Value} {ty : FieldType} {tys0 : Nat → FieldType} {I1 : hI} {J1 : hJ} {R1 : hR} (hx : p.tables.exec = Jvm.exec) (hb : c.code = cc) (hts : ∀ w ∈ wG, w.before args s = true) (hown : s.vm.findClass own = some m.cls) (hH : Hp D cy L C b0 s H0 I J R H locs)
    (hin : ∀ w ∈ u_ws C0 T N, w ∈ wG) (hc : vwCl[ci]? = some (C0, T, N)) (hci : ci < 12) (hN : nF ci = N) (hk : k < N) (hr : (T k).1 = C0) (hty : ∀ k, k < N → parseFieldDescriptor (T k).2.2.1 = some (tys0 k)) (hnm : ∀ a, a < N → ∀ b, b < N → a ≠ b → (T a).2.1 ≠ (T b).2.1)
    (hfin : (T k).2.2.2 = false ∨ ((T k).2.2.2 = true ∧ meth.name = "<init>" ∧ own = C0)) (hd : parseFieldDescriptor (T k).2.2.1 = some ty) (hn : narrow ty v = v) (hfit : fits ty v = true)
    (ha : a ∈ L) (hC : rT (C a) = ci) (hv : eF I1 J1 R1 a (fT ci k) k = v) (hn1 : ∀ j, j ≠ k → eF I1 J1 R1 a (fT ci j) j = eF I J R a (fT ci j) j) (ho : ∀ b, b ≠ a → eE cy C I1 J1 R1 b = eE cy C I J R b) (hl : Cond.fieldLink own idx C0 (T k).2.1 (T k).2.2.1 ∈ wG) (hdg : decode cc pc = .ok (.putfield idx, 3))
    (kk : ∀ (H1 : Heap) (locs1 : List Loc), Hp D cy L C b0 s H0 I1 J1 R1 H1 locs1 → W p l e Rm s m args below meth c H1 locs1 cells slots Q (F0 m (pc + 3) ls rest)) : W p l e Rm s m args below meth c H locs cells slots Q (F0 m pc ls (v :: .ref a :: rest)) := by
  obtain ⟨q0, hq⟩ := va_pl_get (X := []) (f := eE cy C I J R) ha
  have hq' := hq
  rw [List.nil_append, eE_obj hC hci] at hq
  have e1 : (wd cy L C I J R).set q0 (a, .inr (ci, (eO ci I J R a).set k v)) = wd cy L C I1 J1 R1 := by
    have := va_pl_set (X := []) (e := .inr (ci, (eO ci I J R a).set k v)) (by rw [List.nil_append]; exact hH.2.2.1) ha hq'
    rw [List.nil_append, List.nil_append] at this
    rw [this]
    refine va_pl_congr fun b => ?_
    by_cases hb2 : b = a
    · subst hb2
      rw [va_up_self, eE_obj hC hci, eO_set hv hn1]
    · rw [va_up_ne _ _ hb2, ho b hb2]
  have go : ∀ (H1 : Heap) (locs1 : List Loc), va_P D vwCl ((wd cy L C I J R).set q0 (a, .inr (ci, (eO ci I J R a).set k v))) H1 → va_D (fun q => b0 ≤ q) ((wd cy L C I J R).set q0 (a, .inr (ci, (eO ci I J R a).set k v))) → va_S (fun q => b0 ≤ q) H0 H1 locs1 → W p l e Rm s m args below meth c H1 locs1 cells slots Q (F0 m (pc + 3) ls rest) := by
    intro H1 locs1 h1 h2 h3
    rw [e1] at h1 h2
    exact kk H1 locs1 ⟨hH.1, h1, h2, h3, hH.2.2.2.2.1, hH.2.2.2.2.2⟩
  rcases hfin with hfin | ⟨hfin, hin2, hdecl⟩
  · exact va_put hx hb hts hin tys0 hty hnm hown hH.1 hH.2.1 hH.2.2.1 hH.2.2.2.1 q0 hq hc k hk (hts _ hl) (fun _ h => by rw [← hr]; exact h) hfin hd hn hfit (by rw [eO_len]; omega) hdg go
  · exact va_putF hx hb hts hin tys0 hty hnm hown hH.1 hH.2.1 hH.2.2.1 hH.2.2.2.1 q0 hq hc k hk (hts _ hl) (fun _ h => by rw [← hr]; exact h) hfin hin2 (by rw [hr, hdecl]) hd hn hfit (by rw [eO_len]; omega) hdg go
theorem eF_I {a t k : Nat} (h : t = 0) : eF I J R a t k = .int (I a k) := by simp [eF, h]
theorem eF_J {a t k : Nat} (h : t = 1) : eF I J R a t k = .long (J a k) := by simp [eF, h]
theorem eF_R {a t k : Nat} (h : t = 2) : eF I J R a t k = va_rf (R a k) := by simp [eF, h]
theorem eFg_R {a t k b : Nat} (h : t = 2) (hv : R a k = some b) : eF I J R a t k = .ref b := by rw [eF_R h, hv]; rfl
theorem eFp_I {a t k : Nat} {v : Int32} (h : t = 0) : eF (u2 I a k v) J R a t k = .int v := by rw [eF_I h, u2_at]
theorem eFp_J {a t k : Nat} {v : Int64} (h : t = 1) : eF I (u2 J a k v) R a t k = .long v := by rw [eF_J h, u2_at]
theorem eFp_R {a t k v : Nat} (h : t = 2) : eF I J (u2 R a k (some v)) a t k = .ref v := by rw [eF_R h, u2_at]; rfl
theorem eF_nI {a t k j : Nat} {v : Int32} (h : j ≠ k) : eF (u2 I a k v) J R a t j = eF I J R a t j := by simp [eF, u2_nk h]
theorem eF_nJ {a t k j : Nat} {v : Int64} (h : j ≠ k) : eF I (u2 J a k v) R a t j = eF I J R a t j := by simp [eF, u2_nk h]
theorem eF_nR {a t k j : Nat} {v : Option Nat} (h : j ≠ k) : eF I J (u2 R a k v) a t j = eF I J R a t j := by simp [eF, u2_nk h]
theorem eE_oI {a b k : Nat} {v : Int32} (h : b ≠ a) : eE cy C (u2 I a k v) J R b = eE cy C I J R b := by simp only [eE, eO, eF, u2_ne h]
theorem eE_oJ {a b k : Nat} {v : Int64} (h : b ≠ a) : eE cy C I (u2 J a k v) R b = eE cy C I J R b := by simp only [eE, eO, eF, u2_ne h]
theorem eE_oR {a b k : Nat} {v : Option Nat} (h : b ≠ a) : eE cy C I J (u2 R a k v) b = eE cy C I J R b := by simp only [eE, eO, eF, u2_ne h]
/-- arrays -/
theorem eE_I {a : Nat} (h : rT (C a) = 12) : eE cy C I J R a = .inl (cy 0, rN (C a), .inl (I a)) := by simp [eE, h]
theorem eE_J {a : Nat} (h : rT (C a) = 13) : eE cy C I J R a = .inl (cy 1, rN (C a), .inr (.inl (J a))) := by simp [eE, h]
theorem eE_Z {a : Nat} (h : rT (C a) = 14) : eE cy C I J R a = .inl (cy 2, rN (C a), .inl (I a)) := by simp [eE, h]
theorem eE_M {a : Nat} (h : rT (C a) = 15) : eE cy C I J R a = .inl (cy 3, rN (C a), .inr (.inr (.inr (.inr (R a))))) := by simp [eE, h]
theorem eE_S {a : Nat} (h : rT (C a) = 16) : eE cy C I J R a = .inl (cy 4, rN (C a), .inr (.inr (.inr (.inr (R a))))) := by simp [eE, h]
theorem hq_at {a : Nat} {E : va_E} (ha : a ∈ L) (h : eE cy C I J R a = E) : ∃ q0 : Nat, (wd cy L C I J R)[q0]? = some (a, E) := by
  obtain ⟨q0, hq⟩ := va_pl_get (X := []) (f := eE cy C I J R) ha
  rw [List.nil_append, h] at hq
  exact ⟨q0, hq⟩
theorem hset {a q0 : Nat} {E : va_E} {E0 : va_E} {I1 : hI} {J1 : hJ} {R1 : hR} (hD : va_D (fun q => b0 ≤ q) (wd cy L C I J R)) (ha : a ∈ L) (h0 : eE cy C I J R a = E0) (hq : (wd cy L C I J R)[q0]? = some (a, E0)) (hs : eE cy C I1 J1 R1 a = E) (ho : ∀ b, b ≠ a → eE cy C I1 J1 R1 b = eE cy C I J R b) : (wd cy L C I J R).set q0 (a, E) = wd cy L C I1 J1 R1 := by
  have := va_pl_set (X := []) (e := E) (by rw [List.nil_append]; exact hD) ha (by rw [List.nil_append, h0]; exact hq)
  rw [List.nil_append, List.nil_append] at this
  rw [this]
  refine va_pl_congr fun b => ?_
  by_cases hb2 : b = a
  · subst hb2; rw [va_up_self, hs]
  · rw [va_up_ne _ _ hb2, ho b hb2]
theorem hLdI {a r : Nat} {i : Int32} (hx : p.tables.exec = Jvm.exec) (hb : c.code = cc) (hH : Hp D cy L C b0 s H0 I J R H locs) (ha : a ∈ L) (hC : C a = r) (hr : rT r = 12) (hi : vp_in i (rN r)) (hdg : decode cc pc = .ok (.iaload, 1))
    (kk : W p l e Rm s m args below meth c H locs cells slots Q (F0 m (pc + 1) ls (.int (I a i.toNatClampNeg) :: rest))) : W p l e Rm s m args below meth c H locs cells slots Q (F0 m pc ls (.int i :: .ref a :: rest)) := by
  subst hC
  obtain ⟨q0, hq⟩ := hq_at (cy := cy) (I := I) (J := J) (R := R) ha (eE_I hr)
  exact va_iald hx hb hH.1 hH.2.1 q0 0 hq rfl hi hdg kk
theorem hLdZ {a r : Nat} {i : Int32} (hx : p.tables.exec = Jvm.exec) (hb : c.code = cc) (hH : Hp D cy L C b0 s H0 I J R H locs) (ha : a ∈ L) (hC : C a = r) (hr : rT r = 14) (hi : vp_in i (rN r)) (hdg : decode cc pc = .ok (.baload, 1))
    (kk : W p l e Rm s m args below meth c H locs cells slots Q (F0 m (pc + 1) ls (.int (I a i.toNatClampNeg) :: rest))) : W p l e Rm s m args below meth c H locs cells slots Q (F0 m pc ls (.int i :: .ref a :: rest)) := by
  subst hC
  obtain ⟨q0, hq⟩ := hq_at (cy := cy) (I := I) (J := J) (R := R) ha (eE_Z hr)
  exact va_zald hx hb hH.1 hH.2.1 q0 2 hq rfl hi hdg kk
theorem hLdJ {a r : Nat} {i : Int32} (hx : p.tables.exec = Jvm.exec) (hb : c.code = cc) (hH : Hp D cy L C b0 s H0 I J R H locs) (ha : a ∈ L) (hC : C a = r) (hr : rT r = 13) (hi : vp_in i (rN r)) (hdg : decode cc pc = .ok (.laload, 1))
    (kk : W p l e Rm s m args below meth c H locs cells slots Q (F0 m (pc + 1) ls (.long (J a i.toNatClampNeg) :: rest))) : W p l e Rm s m args below meth c H locs cells slots Q (F0 m pc ls (.int i :: .ref a :: rest)) := by
  subst hC
  obtain ⟨q0, hq⟩ := hq_at (cy := cy) (I := I) (J := J) (R := R) ha (eE_J hr)
  exact va_lald hx hb hH.1 hH.2.1 q0 1 hq rfl hi hdg kk
theorem hLdR {a r : Nat} {i : Int32} (hx : p.tables.exec = Jvm.exec) (hb : c.code = cc) (hH : Hp D cy L C b0 s H0 I J R H locs) (ha : a ∈ L) (hC : C a = r) (hr : rT r = 15 ∨ rT r = 16) (hi : vp_in i (rN r)) (hdg : decode cc pc = .ok (.aaload, 1))
    (kk : W p l e Rm s m args below meth c H locs cells slots Q (F0 m (pc + 1) ls (va_rf (R a i.toNatClampNeg) :: rest))) : W p l e Rm s m args below meth c H locs cells slots Q (F0 m pc ls (.int i :: .ref a :: rest)) := by
  subst hC
  rcases hr with hr | hr
  · obtain ⟨q0, hq⟩ := hq_at (cy := cy) (I := I) (J := J) (R := R) ha (eE_M hr)
    exact va_aldq hx hb hH.1 hH.2.1 q0 3 hq rfl hi hdg kk
  · obtain ⟨q0, hq⟩ := hq_at (cy := cy) (I := I) (J := J) (R := R) ha (eE_S hr)
    exact va_aldq hx hb hH.1 hH.2.1 q0 4 hq rfl hi hdg kk
theorem hStI {a r : Nat} {i v : Int32} (hx : p.tables.exec = Jvm.exec) (hb : c.code = cc) (hH : Hp D cy L C b0 s H0 I J R H locs) (ha : a ∈ L) (hC : C a = r) (hr : rT r = 12) (hi : vp_in i (rN r)) (hdg : decode cc pc = .ok (.iastore, 1))
    (kk : ∀ (I1 : hI) (H1 : Heap) (locs1 : List Loc), I1 = u2 I a i.toNatClampNeg v → Hp D cy L C b0 s H0 I1 J R H1 locs1 → W p l e Rm s m args below meth c H1 locs1 cells slots Q (F0 m (pc + 1) ls rest)) : W p l e Rm s m args below meth c H locs cells slots Q (F0 m pc ls (.int v :: .int i :: .ref a :: rest)) := by
  subst hC
  obtain ⟨q0, hq⟩ := hq_at (cy := cy) (I := I) (J := J) (R := R) ha (eE_I hr)
  have e1 := hset (I1 := u2 I a i.toNatClampNeg v) (J1 := J) (R1 := R) (E := .inl (cy 0, rN (C a), .inl (upd (I a) i.toNatClampNeg v))) hH.2.2.1 ha (eE_I hr) hq (by rw [eE_I hr, u2_eq]; rfl) (fun b h => eE_oI h)
  refine va_iast hx hb hH.1 hH.2.1 hH.2.2.1 hH.2.2.2.1 q0 0 hq rfl hi hdg (fun H1 locs1 h1 h2 h3 => ?_)
  rw [e1] at h1 h2
  exact kk _ H1 locs1 rfl ⟨hH.1, h1, h2, h3, hH.2.2.2.2.1, hH.2.2.2.2.2⟩
theorem hStZ {a r : Nat} {i v : Int32} (hx : p.tables.exec = Jvm.exec) (hb : c.code = cc) (hH : Hp D cy L C b0 s H0 I J R H locs) (ha : a ∈ L) (hC : C a = r) (hr : rT r = 14) (hi : vp_in i (rN r)) (hv : v = 0 ∨ v = 1) (hdg : decode cc pc = .ok (.bastore, 1))
    (kk : ∀ (I1 : hI) (H1 : Heap) (locs1 : List Loc), I1 = u2 I a i.toNatClampNeg v → Hp D cy L C b0 s H0 I1 J R H1 locs1 → W p l e Rm s m args below meth c H1 locs1 cells slots Q (F0 m (pc + 1) ls rest)) : W p l e Rm s m args below meth c H locs cells slots Q (F0 m pc ls (.int v :: .int i :: .ref a :: rest)) := by
  subst hC
  obtain ⟨q0, hq⟩ := hq_at (cy := cy) (I := I) (J := J) (R := R) ha (eE_Z hr)
  have e1 := hset (I1 := u2 I a i.toNatClampNeg v) (J1 := J) (R1 := R) (E := .inl (cy 2, rN (C a), .inl (upd (I a) i.toNatClampNeg v))) hH.2.2.1 ha (eE_Z hr) hq (by rw [eE_Z hr, u2_eq]; rfl) (fun b h => eE_oI h)
  refine va_zast hx hb hH.1 hH.2.1 hH.2.2.1 hH.2.2.2.1 q0 2 hq rfl hi hdg (fun H1 locs1 h1 h2 h3 => ?_)
  rw [show vp_nar .boolean v = v by rcases hv with rfl | rfl <;> decide] at h1 h2
  rw [e1] at h1 h2
  exact kk _ H1 locs1 rfl ⟨hH.1, h1, h2, h3, hH.2.2.2.2.1, hH.2.2.2.2.2⟩
theorem hStJ {a r : Nat} {i : Int32} {v : Int64} (hx : p.tables.exec = Jvm.exec) (hb : c.code = cc) (hH : Hp D cy L C b0 s H0 I J R H locs) (ha : a ∈ L) (hC : C a = r) (hr : rT r = 13) (hi : vp_in i (rN r)) (hdg : decode cc pc = .ok (.lastore, 1))
    (kk : ∀ (J1 : hJ) (H1 : Heap) (locs1 : List Loc), J1 = u2 J a i.toNatClampNeg v → Hp D cy L C b0 s H0 I J1 R H1 locs1 → W p l e Rm s m args below meth c H1 locs1 cells slots Q (F0 m (pc + 1) ls rest)) : W p l e Rm s m args below meth c H locs cells slots Q (F0 m pc ls (.long v :: .int i :: .ref a :: rest)) := by
  subst hC
  obtain ⟨q0, hq⟩ := hq_at (cy := cy) (I := I) (J := J) (R := R) ha (eE_J hr)
  have e1 := hset (I1 := I) (J1 := u2 J a i.toNatClampNeg v) (R1 := R) (E := .inl (cy 1, rN (C a), .inr (.inl (vp_updL (J a) i.toNatClampNeg v)))) hH.2.2.1 ha (eE_J hr) hq (by rw [eE_J hr, u2_eq]; rfl) (fun b h => eE_oJ h)
  refine va_last hx hb hH.1 hH.2.1 hH.2.2.1 hH.2.2.2.1 q0 1 hq rfl hi hdg (fun H1 locs1 h1 h2 h3 => ?_)
  rw [e1] at h1 h2
  exact kk _ H1 locs1 rfl ⟨hH.1, h1, h2, h3, hH.2.2.2.2.1, hH.2.2.2.2.2⟩
theorem hStR {a v r ci : Nat} {i : Int32} {q : vw_C} (hx : p.tables.exec = Jvm.exec) (hb : c.code = cc) (hH : Hp D cy L C b0 s H0 I J R H locs) (ha : a ∈ L) (hC : C a = r) (hr : (rT r = 15 ∧ ci = 5) ∨ (rT r = 16 ∧ ci = 7)) (hv : v ∈ L) (hvC : rT (C v) = ci) (hi : vp_in i (rN r)) (hdg : decode cc pc = .ok (.aastore, 1))
    (kk : ∀ (R1 : hR) (H1 : Heap) (locs1 : List Loc), R1 = u2 R a i.toNatClampNeg (some v) → Hp D cy L C b0 s H0 I J R1 H1 locs1 → W p l e Rm s m args below meth c H1 locs1 cells slots Q (F0 m (pc + 1) ls rest)) : W p l e Rm s m args below meth c H locs cells slots Q (F0 m pc ls (.ref v :: .int i :: .ref a :: rest)) := by
  subst hC
  rcases hr with ⟨hr, rfl⟩ | ⟨hr, rfl⟩
  · obtain ⟨q0, hq⟩ := hq_at (cy := cy) (I := I) (J := J) (R := R) ha (eE_M hr)
    obtain ⟨q1, hq1⟩ := hq_at (cy := cy) (I := I) (J := J) (R := R) hv (eE_obj hvC (by decide))
    have e1 := hset (I1 := I) (J1 := J) (R1 := u2 R a i.toNatClampNeg (some v)) (E := .inl (cy 3, rN (C a), .inr (.inr (.inr (.inr (va_up (R a) i.toNatClampNeg (some v))))))) hH.2.2.1 ha (eE_M hr) hq (by rw [eE_M hr, u2_eq]; rfl) (fun b h => eE_oR h)
    refine va_astq (r := (RX5, TX5, 8)) hx hb hH.1 hH.2.1 hH.2.2.1 hH.2.2.2.1 q0 3 q1 5 hq rfl hq1 rfl hi hdg (fun H1 locs1 h1 h2 h3 => ?_)
    rw [e1] at h1 h2
    exact kk _ H1 locs1 rfl ⟨hH.1, h1, h2, h3, hH.2.2.2.2.1, hH.2.2.2.2.2⟩
  · obtain ⟨q0, hq⟩ := hq_at (cy := cy) (I := I) (J := J) (R := R) ha (eE_S hr)
    obtain ⟨q1, hq1⟩ := hq_at (cy := cy) (I := I) (J := J) (R := R) hv (eE_obj hvC (by decide))
    have e1 := hset (I1 := I) (J1 := J) (R1 := u2 R a i.toNatClampNeg (some v)) (E := .inl (cy 4, rN (C a), .inr (.inr (.inr (.inr (va_up (R a) i.toNatClampNeg (some v))))))) hH.2.2.1 ha (eE_S hr) hq (by rw [eE_S hr, u2_eq]; rfl) (fun b h => eE_oR h)
    refine va_astq (r := (RX7, TX7, 2)) hx hb hH.1 hH.2.1 hH.2.2.1 hH.2.2.2.1 q0 4 q1 7 hq rfl hq1 rfl hi hdg (fun H1 locs1 h1 h2 h3 => ?_)
    rw [e1] at h1 h2
    exact kk _ H1 locs1 rfl ⟨hH.1, h1, h2, h3, hH.2.2.2.2.1, hH.2.2.2.2.2⟩
theorem hLen {a r : Nat} {v : Int32} (hx : p.tables.exec = Jvm.exec) (hb : c.code = cc) (hH : Hp D cy L C b0 s H0 I J R H locs) (ha : a ∈ L) (hC : C a = r) (hr : rT r = 12 ∨ rT r = 14) (hv : Int32.ofNat (rN r) = v) (hdg : decode cc pc = .ok (.arraylength, 1))
    (kk : W p l e Rm s m args below meth c H locs cells slots Q (F0 m (pc + 1) ls (.int v :: rest))) : W p l e Rm s m args below meth c H locs cells slots Q (F0 m pc ls (.ref a :: rest)) := by
  subst hC
  rcases hr with hr | hr
  · obtain ⟨q0, hq⟩ := hq_at (cy := cy) (I := I) (J := J) (R := R) ha (eE_I hr)
    exact va_alen hx hb hH.1 hH.2.1 q0 0 hq rfl hv hdg kk
  · obtain ⟨q0, hq⟩ := hq_at (cy := cy) (I := I) (J := J) (R := R) ha (eE_Z hr)
    exact va_alen hx hb hH.1 hH.2.1 q0 2 hq rfl hv hdg kk
theorem Hp.recv {a ci : Nat} {q : vw_C} (hH : Hp D cy L C b0 s H0 I J R H locs) (ha : a ∈ L) (hC : rT (C a) = ci) (hci : ci < 12) (hc : vwCl[ci]? = some q) : ∃ cell : Cell, H[a]? = some cell ∧ cell.vm.isStatics = false ∧ s.vm.findClass q.1 = some cell.cls := by
  obtain ⟨q0, hq⟩ := hq_at (cy := cy) (I := I) (J := J) (R := R) ha (eE_obj hC hci)
  exact va_recv hH.1 hH.2.1 hc hq
/-- behind a call -/
theorem Hp.back {u : hU} {t : State} {H1 : Heap} {locs1 : List Loc} (hH : Hp D cy L C b0 s H0 I J R H locs) (ht : t.heap = H1) (hB : BcU D cy L C b0 u t) (hS : va_S (fun q => b0 ≤ q) H0 H1 locs1) : Hp D cy L C b0 s H0 u.1 u.2.1 u.2.2 H1 locs1 :=
  ⟨hH.1, by rw [← ht]; exact hB.1, hB.2, hS, hH.2.2.2.2.1, hH.2.2.2.2.2⟩
end POOL
