/-! walks, their weights, and which of them are best -/
def Wk (src dst : Nat → Nat) (pr : Nat → Prop) : Nat → List Nat → Nat → Prop
  | a, [], b => a = b
  | a, e :: l, b => pr e ∧ src e = a ∧ Wk src dst pr (dst e) l b
def wc (cst : Nat → Int) : List Nat → Int
  | [] => 0
  | e :: l => cst e + wc cst l
def cd (Bs : Nat) : List Nat → Nat
  | [] => 0
  | e :: l => e * Bs ^ l.length + cd Bs l
def Eok (N Bs : Nat) (src dst : Nat → Nat) (cst : Nat → Int) (pr : Nat → Prop) : Prop := ∀ e, pr e → src e < N ∧ dst e < N ∧ 0 ≤ cst e ∧ e < Bs
def Dok (N : Nat) (FAR B : Int) (src dst : Nat → Nat) (cst : Nat → Int) (pr : Nat → Prop) (d : Nat → Int) (b : Nat) : Prop :=
  d b = 0 ∧ (∀ v, v < N → 0 ≤ d v ∧ d v ≤ FAR) ∧ (∀ e, pr e → d (src e) ≤ B * cst e + 1 + d (dst e)) ∧ (∀ v, v < N → v ≠ b → d v < FAR → ∃ e, pr e ∧ src e = v ∧ B * cst e + 1 + d (dst e) ≤ d v)
def Fok (N : Nat) (FAR B : Int) (src dst : Nat → Nat) (cst : Nat → Int) (pr : Nat → Prop) (d : Nat → Int) (b : Nat) (fi : Nat → Nat) : Prop :=
  ∀ v, v < N → v ≠ b → d v < FAR → (pr (fi v) ∧ src (fi v) = v ∧ B * cst (fi v) + 1 + d (dst (fi v)) = d v) ∧ ∀ e, pr e → src e = v → B * cst e + 1 + d (dst e) = d v → fi v ≤ e
def rk : Nat → (Nat → Int) → Int → Nat
  | 0, _, _ => 0
  | n + 1, d, x => rk n d x + if d n < x then 1 else 0
def gry (dst fi : Nat → Nat) (b : Nat) : Nat → Nat → List Nat
  | 0, _ => []
  | n + 1, v => if v = b then [] else fi v :: gry dst fi b n (dst (fi v))
theorem rk_mono {d : Nat → Int} {x y : Int} (h : x ≤ y) : ∀ n, rk n d x ≤ rk n d y := by
  intro n
  induction n with
  | zero => exact Nat.le_refl _
  | succ n ih =>
    simp only [rk]
    by_cases h1 : d n < x
    · rw [if_pos h1, if_pos (by omega)]; omega
    · rw [if_neg h1]; omega
theorem rk_lt {d : Nat → Int} {x y : Int} {u : Nat} (h1 : x ≤ d u) (h2 : d u < y) : ∀ n, u < n → rk n d x < rk n d y := by
  intro n
  induction n with
  | zero => intro h; omega
  | succ n ih =>
    intro h
    simp only [rk]
    by_cases e : u = n
    · subst e
      rw [if_neg (by omega), if_pos h2]
      have := rk_mono (d := d) (show x ≤ y by omega) u
      omega
    · have := ih (by omega)
      by_cases q : d n < x
      · rw [if_pos q, if_pos (by omega)]; omega
      · rw [if_neg q]; omega
theorem rk_le {d : Nat → Int} {x : Int} : ∀ n, rk n d x ≤ n := by
  intro n
  induction n with
  | zero => exact Nat.le_refl _
  | succ n ih =>
    simp only [rk]
    by_cases h1 : d n < x
    · rw [if_pos h1]; omega
    · rw [if_neg h1]; omega
theorem rk_lt_n {d : Nat → Int} {x : Int} {u : Nat} (h : x ≤ d u) : ∀ n, u < n → rk n d x < n := by
  intro n
  induction n with
  | zero => intro h; omega
  | succ n ih =>
    intro hu
    simp only [rk]
    by_cases e : u = n
    · subst e
      rw [if_neg (by omega)]
      have := rk_le (d := d) (x := x) u
      omega
    · have := ih (by omega)
      by_cases q : d n < x
      · rw [if_pos q]; omega
      · rw [if_neg q]; omega
section GRAPH
variable {N Bs : Nat} {FAR B : Int} {src dst fi : Nat → Nat} {cst : Nat → Int} {pr : Nat → Prop} {d : Nat → Int} {a b : Nat}
theorem Dok.le (h : Dok N FAR B src dst cst pr d b) : ∀ (l : List Nat) (a : Nat), Wk src dst pr a l b → d a ≤ B * wc cst l + l.length := by
  intro l
  induction l with
  | nil =>
    intro a hw
    have hw : a = b := hw
    rw [hw, h.1]
    simp [wc]
  | cons e l ih =>
    intro a hw
    obtain ⟨h1, h2, h3⟩ := hw
    have q1 := h.2.2.1 e h1
    have q2 := ih _ h3
    rw [h2] at q1
    simp only [wc, List.length_cons]
    rw [Int.mul_add]
    omega
theorem cd_lt (hE : Eok N Bs src dst cst pr) : ∀ (l : List Nat) (a b : Nat), Wk src dst pr a l b → cd Bs l < Bs ^ l.length := by
  intro l
  induction l with
  | nil => intro a b _; simp [cd]
  | cons e l ih =>
    intro a b hw
    obtain ⟨h1, h2, h3⟩ := hw
    have q1 := (hE e h1).2.2.2
    have q2 := ih _ _ h3
    simp only [cd, List.length_cons, Nat.pow_succ]
    have q3 : (e + 1) * Bs ^ l.length ≤ Bs * Bs ^ l.length := Nat.mul_le_mul_right _ q1
    rw [Nat.add_mul, Nat.one_mul] at q3
    rw [Nat.mul_comm (Bs ^ l.length) Bs]
    omega
theorem cd_inj (hE : Eok N Bs src dst cst pr) : ∀ (l m : List Nat) (a a1 b b1 : Nat), Wk src dst pr a l b → Wk src dst pr a1 m b1 → l.length = m.length → cd Bs l = cd Bs m → l = m := by
  intro l
  induction l with
  | nil =>
    intro m a a1 b b1 _ _ hl _
    cases m with
    | nil => rfl
    | cons e m => simp at hl
  | cons e l ih =>
    intro m a a1 b b1 hw hm hl hc
    cases m with
    | nil => simp at hl
    | cons e1 m =>
      obtain ⟨h1, h2, h3⟩ := hw
      obtain ⟨g1, g2, g3⟩ := hm
      have hl2 : l.length = m.length := by simpa using hl
      clear hl
      have q1 := cd_lt hE _ _ _ h3
      have q2 := cd_lt hE _ _ _ g3
      simp only [cd] at hc
      rw [← hl2] at hc q2
      have ee : e = e1 := by
        rcases Nat.lt_trichotomy e e1 with h | h | h
        · have := Nat.mul_le_mul_right (Bs ^ l.length) (show e + 1 ≤ e1 from h)
          rw [Nat.add_mul, Nat.one_mul] at this
          omega
        · exact h
        · have := Nat.mul_le_mul_right (Bs ^ l.length) (show e1 + 1 ≤ e from h)
          rw [Nat.add_mul, Nat.one_mul] at this
          omega
      subst ee
      rw [ih m _ _ _ _ h3 g3 hl2 (by omega)]
theorem cd_snoc {e : Nat} : ∀ l : List Nat, cd Bs (l ++ [e]) = cd Bs l * Bs + e := by
  intro l
  induction l with
  | nil => simp [cd]
  | cons x l ih =>
    simp only [List.cons_append, cd, List.length_append, List.length_cons, List.length_nil, ih, Nat.pow_succ, Nat.add_mul]
    simp only [Nat.mul_assoc, Nat.add_assoc, Nat.zero_add, Nat.pow_one]
theorem wc_snoc {e : Nat} : ∀ l : List Nat, wc cst (l ++ [e]) = wc cst l + cst e := by
  intro l
  induction l with
  | nil => simp [wc]
  | cons x l ih => simp only [List.cons_append, wc, ih]; omega
theorem wk_snoc {e : Nat} : ∀ (l : List Nat) (a b : Nat), Wk src dst pr a (l ++ [e]) b ↔ (Wk src dst pr a l (src e) ∧ pr e ∧ dst e = b) := by
  intro l
  induction l with
  | nil =>
    intro a b
    simp only [List.nil_append, Wk]
    exact ⟨fun h => ⟨h.2.1.symm, h.1, h.2.2⟩, fun h => ⟨h.2.1, h.1.symm, h.2.2⟩⟩
  | cons x l ih =>
    intro a b
    simp only [List.cons_append, Wk, ih]
    exact ⟨fun h => ⟨⟨h.1, h.2.1, h.2.2.1⟩, h.2.2.2⟩, fun h => ⟨h.1.1, h.1.2.1, h.1.2.2, h.2⟩⟩
theorem wc_nn (hE : Eok N Bs src dst cst pr) : ∀ (l : List Nat) (a b : Nat), Wk src dst pr a l b → 0 ≤ wc cst l := by
  intro l
  induction l with
  | nil => intro a b _; simp [wc]
  | cons e l ih =>
    intro a b hw
    obtain ⟨h1, h2, h3⟩ := hw
    have := ih _ _ h3
    have := (hE e h1).2.2.1
    simp only [wc]
    omega
theorem gry_ok (hE : Eok N Bs src dst cst pr) (hB : 0 ≤ B) (hD : Dok N FAR B src dst cst pr d b) (hF : Fok N FAR B src dst cst pr d b fi) : ∀ (n v : Nat), v < N → d v < FAR → rk N d (d v) ≤ n → Wk src dst pr v (gry dst fi b n v) b ∧ B * wc cst (gry dst fi b n v) + (gry dst fi b n v).length = d v ∧ (gry dst fi b n v).length ≤ rk N d (d v) := by
  intro n
  induction n with
  | zero =>
    intro v hv hd hr
    have e : v = b := by
      refine Classical.byContradiction fun ne => ?_
      obtain ⟨⟨h1, h2, h3⟩, -⟩ := hF v hv ne hd
      obtain ⟨g1, g2, g3, -⟩ := hE _ h1
      have := Int.mul_nonneg hB g3
      have := rk_lt (d := d) (x := d (dst (fi v))) (y := d v) (u := dst (fi v)) (by omega) (by omega) N g2
      omega
    subst e
    refine ⟨rfl, ?_, Nat.zero_le _⟩
    rw [hD.1]
    simp [gry, wc]
  | succ n ih =>
    intro v hv hd hr
    by_cases e : v = b
    · subst e
      simp only [gry, if_pos]
      refine ⟨rfl, ?_, Nat.zero_le _⟩
      rw [hD.1]
      simp [wc]
    · obtain ⟨⟨h1, h2, h3⟩, -⟩ := hF v hv e hd
      obtain ⟨g1, g2, g3, -⟩ := hE _ h1
      have hp := Int.mul_nonneg hB g3
      have hr2 := rk_lt (d := d) (x := d (dst (fi v))) (y := d v) (u := dst (fi v)) (by omega) (by omega) N g2
      obtain ⟨i1, i2, i3⟩ := ih (dst (fi v)) g2 (by omega) (by omega)
      simp only [gry, if_neg e]
      refine ⟨⟨h1, h2, i1⟩, ?_, ?_⟩
      · simp only [wc, List.length_cons]
        rw [Int.mul_add]
        omega
      · simp only [List.length_cons]
        omega
theorem gry_min (hE : Eok N Bs src dst cst pr) (hB : 0 ≤ B) (hD : Dok N FAR B src dst cst pr d b) (hF : Fok N FAR B src dst cst pr d b fi) : ∀ (n v : Nat) (l : List Nat), v < N → d v < FAR → rk N d (d v) ≤ n → Wk src dst pr v l b → B * wc cst l + l.length = d v → l.length = (gry dst fi b n v).length → cd Bs (gry dst fi b n v) ≤ cd Bs l := by
  intro n
  induction n with
  | zero => intro v l _ _ _ _ _ _; simp [gry, cd]
  | succ n ih =>
    intro v l hv hd hr hw hc hl
    by_cases e : v = b
    · simp only [gry, if_pos e, cd]; exact Nat.zero_le _
    · obtain ⟨⟨h1, h2, h3⟩, hmin⟩ := hF v hv e hd
      obtain ⟨g1, g2, g3, g4⟩ := hE _ h1
      have hp := Int.mul_nonneg hB g3
      have hr2 := rk_lt (d := d) (x := d (dst (fi v))) (y := d v) (u := dst (fi v)) (by omega) (by omega) N g2
      have i0 := gry_ok hE hB hD hF n (dst (fi v)) g2 (by omega) (by omega)
      simp only [gry, if_neg e] at hl ⊢
      cases l with
      | nil => simp at hl
      | cons x l =>
        obtain ⟨w1, w2, w3⟩ := hw
        have hl : l.length = (gry dst fi b n (dst (fi v))).length := by simpa using hl
        have q1 := hD.le l _ w3
        have q2 := hD.2.2.1 x w1
        rw [w2] at q2
        simp only [wc, List.length_cons] at hc
        rw [Int.mul_add] at hc
        have hx : B * cst x + 1 + d (dst x) = d v := by omega
        have le := hmin x w1 w2 hx
        simp only [cd]
        by_cases ex : fi v = x
        · rw [ex] at hl ⊢
          have := ih (dst x) l (hE x w1).2.1 (by have := Int.mul_nonneg hB (hE x w1).2.2.1; omega) (by rw [← ex]; omega) w3 (by omega) hl
          rw [hl]
          omega
        · have lt : fi v + 1 ≤ x := by omega
          have q3 := cd_lt hE _ _ _ i0.1
          have q4 := Nat.mul_le_mul_right (Bs ^ l.length) lt
          rw [Nat.add_mul, Nat.one_mul] at q4
          rw [← hl] at q3 ⊢
          omega
/-- what the table of exact steps holds, up to M steps -/
def Mok (N M Bs : Nat) (FM : Int) (src dst : Nat → Nat) (cst : Nat → Int) (pr : Nat → Prop) (a : Nat) (S : Nat → Nat → Int) (row : Nat → Nat → List Nat) : Prop :=
  ∀ n, n ≤ M → ∀ v, v < N → (S n v ≤ FM ∧ (S n v < FM → Wk src dst pr a (row n v) v ∧ (row n v).length = n ∧ wc cst (row n v) = S n v)) ∧ ∀ l, Wk src dst pr a l v → l.length = n → S n v ≤ wc cst l ∧ (S n v < FM → wc cst l = S n v → cd Bs (row n v) ≤ cd Bs l)
theorem best_eq {FM : Int} {S : Nat → Nat → Int} {row : Nat → Nat → List Nat} (hE : Eok N Bs src dst cst pr) (hB : (N : Int) ≤ B) (hD : Dok N FAR B src dst cst pr d b) (hF : Fok N FAR B src dst cst pr d b fi) (hM : Mok N (N - 1) Bs FM src dst cst pr a S row) (ha : a < N) (hb : b < N) (hd : d a < FAR) (hFM : ∀ l, Wk src dst pr a l b → l.length < N → wc cst l < FM) :
    ∃ n0, n0 < N ∧ S n0 b < FM ∧ d a = B * S n0 b + n0 ∧ row n0 b = gry dst fi b N a ∧ (∀ n, n < N → S n0 b ≤ S n b) ∧ ∀ n, n < n0 → S n0 b < S n b := by
  have hB0 : 0 ≤ B := by omega
  have hrk : rk N d (d a) < N := rk_lt_n (u := a) (Int.le_refl _) N ha
  obtain ⟨g1, g2, g3⟩ := gry_ok hE hB0 hD hF N a ha hd (by omega)
  have gm := gry_min hE hB0 hD hF N a
  obtain ⟨G, hG⟩ : ∃ G, G = gry dst fi b N a := ⟨_, rfl⟩
  rw [← hG] at g1 g2 g3 gm
  have hn0 : G.length < N := by omega
  obtain ⟨⟨m1, m2⟩, m3⟩ := hM G.length (by omega) b hb
  obtain ⟨m4, m5⟩ := m3 G g1 rfl
  have hfm := hFM G g1 hn0
  obtain ⟨r1, r2, r3⟩ := m2 (by omega)
  have low : ∀ n, n < N → S n b < FM → d a ≤ B * S n b + n := fun n hn hs => by
    obtain ⟨⟨-, p2⟩, -⟩ := hM n (by omega) b hb
    obtain ⟨p3, p4, p5⟩ := p2 hs
    have := hD.le _ _ p3
    rw [p4, p5] at this
    exact this
  have q1 := low G.length hn0 (by omega)
  have hS : S G.length b = wc cst G := by
    refine Int.le_antisymm m4 ?_
    have h2 : B * wc cst G ≤ B * S G.length b := by omega
    exact Classical.byContradiction fun h => by
      have h3 : S G.length b + 1 ≤ wc cst G := by omega
      have h4 := Int.mul_le_mul_of_nonneg_left h3 hB0
      rw [Int.mul_add, Int.mul_one] at h4
      omega
  have hd2 : d a = B * S G.length b + G.length := by rw [hS]; omega
  have key : ∀ n, n < N → S G.length b ≤ S n b ∧ (S n b = S G.length b → G.length ≤ n) := fun n hn => by
    by_cases hs : S n b < FM
    · have h1 := low n hn hs
      refine ⟨Classical.byContradiction fun h => ?_, fun h => by rw [h] at h1; omega⟩
      have h3 : S n b + 1 ≤ S G.length b := by omega
      have h4 := Int.mul_le_mul_of_nonneg_left h3 hB0
      rw [Int.mul_add, Int.mul_one] at h4
      omega
    · exact ⟨by omega, fun h => by omega⟩
  refine ⟨G.length, hn0, by omega, hd2, ?_, fun n hn => (key n hn).1, fun n hn => ?_⟩
  · have h1 := gm (row G.length b) ha hd (by omega) r1 (by rw [r3, r2]; omega) r2
    have h2 := m5 (by omega) hS.symm
    rw [← hG]
    exact cd_inj hE _ _ _ _ _ _ r1 g1 r2 (by omega)
  · obtain ⟨t1, t2⟩ := key n (by omega)
    have t3 : S n b ≠ S G.length b := fun h => by have := t2 h; omega
    omega
theorem none_eq {FM : Int} {S : Nat → Nat → Int} {row : Nat → Nat → List Nat} (hD : Dok N FAR B src dst cst pr d b) (hM : Mok N (N - 1) Bs FM src dst cst pr a S row) (hb : b < N) (hB : 0 ≤ B) (hF : B * (FM - 1) + N ≤ FAR) (hd : ¬ d a < FAR) : ∀ n, n < N → S n b = FM := by
  intro n hn
  obtain ⟨⟨m1, m2⟩, -⟩ := hM n (by omega) b hb
  refine Classical.byContradiction fun h => hd ?_
  obtain ⟨p3, p4, p5⟩ := m2 (by omega)
  have h1 := hD.le _ _ p3
  rw [p4, p5] at h1
  have h3 : S n b ≤ FM - 1 := by omega
  have h4 := Int.mul_le_mul_of_nonneg_left h3 hB
  omega
/-- one step more: edges 0 .. k - 1 have been looked at -/
def Stpp (N Bs k : Nat) (FM : Int) (src dst : Nat → Nat) (cst : Nat → Int) (pr : Nat → Prop) (s : Nat → Int) (r : Nat → List Nat) (s1 : Nat → Int) (r1 : Nat → List Nat) : Prop :=
  ∀ v, v < N → (s1 v = FM ∨ ∃ e, e < k ∧ pr e ∧ dst e = v ∧ s (src e) < FM ∧ s1 v = s (src e) + cst e ∧ r1 v = r (src e) ++ [e]) ∧ ∀ e, e < k → pr e → dst e = v → s (src e) < FM → s1 v ≤ s (src e) + cst e ∧ (s1 v = s (src e) + cst e → cd Bs (r1 v) ≤ cd Bs (r (src e) ++ [e]))
theorem list_snoc : ∀ l : List Nat, l ≠ [] → ∃ m e, l = m ++ [e] := by
  intro l h
  exact ⟨l.dropLast, l.getLast h, (List.dropLast_concat_getLast h).symm⟩
theorem Mok.step {M k : Nat} {FM : Int} {S : Nat → Nat → Int} {row : Nat → Nat → List Nat} (hE : Eok N Bs src dst cst pr) (hk : ∀ e, pr e → e < k) (h : Mok N M Bs FM src dst cst pr a S row) (hs : Stpp N Bs k FM src dst cst pr (S M) (row M) (S (M + 1)) (row (M + 1))) (hle : ∀ v, v < N → S (M + 1) v ≤ FM) : Mok N (M + 1) Bs FM src dst cst pr a S row := by
  intro n hn v hv
  by_cases hnm : n ≤ M
  · exact h n hnm v hv
  · obtain rfl : n = M + 1 := by omega
    obtain ⟨s1, s2⟩ := hs v hv
    refine ⟨⟨hle v hv, fun hlt => ?_⟩, fun l hw hl => ?_⟩
    · rcases s1 with s1 | ⟨e, e1, e2, e3, e4, e5, e6⟩
      · omega
      · obtain ⟨⟨-, m2⟩, -⟩ := h M (Nat.le_refl _) (src e) (hE e e2).1
        obtain ⟨w1, w2, w3⟩ := m2 e4
        rw [e6]
        refine ⟨(wk_snoc _ _ _).mpr ⟨w1, e2, e3⟩, by simp [w2], by rw [wc_snoc, w3, e5]⟩
    · obtain ⟨m, e, rfl⟩ := list_snoc l (fun h0 => by rw [h0] at hl; simp at hl)
      obtain ⟨w1, w2, w3⟩ := (wk_snoc _ _ _).mp hw
      have hlm : m.length = M := by simpa using hl
      obtain ⟨⟨m0, m2⟩, m3⟩ := h M (Nat.le_refl _) (src e) (hE e w2).1
      obtain ⟨p1, p2⟩ := m3 m w1 hlm
      rw [wc_snoc, cd_snoc]
      by_cases hf : S M (src e) < FM
      · obtain ⟨q1, q2⟩ := s2 e (hk e w2) w2 w3 hf
        refine ⟨by omega, fun _ hc => ?_⟩
        have h1 := q2 (by omega)
        have h2 := p2 hf (by omega)
        rw [cd_snoc] at h1
        have := Nat.mul_le_mul_right Bs h2
        omega
      · have := hle v hv
        have := (hE e w2).2.2.1
        exact ⟨by omega, fun _ hc => by omega⟩
end GRAPH
