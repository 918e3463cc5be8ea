/-! the best member of a shape, in the model -/
def bo3 (B : Int) (o : Option (Int × Nat × List Nat)) : Int := match o with
  | none => B
  | some q => q.1
def stM (o : Option (Int × Nat × List Nat)) (m : Nat) (O : Option (Int × List Nat)) : Option (Int × Nat × List Nat) := match O with
  | none => o
  | some q => if q.1 < bo3 1000000 o then some (q.1, m, q.2) else o
def foM (f : Nat → Option (Int × List Nat)) : Nat → Nat → Option (Int × Nat × List Nat) → Option (Int × Nat × List Nat)
  | 0, _, o => o
  | n + 1, m, o => foM f n (m + 1) (stM o m (f m))
def Mf (mo pl bp fp : Nat) (acs : Nat → Nat) (I0 I : hI) (o : Option (Int × Nat × List Nat)) : Prop := (∀ z, z ≠ mo → z ≠ pl → z ≠ bp → z ≠ fp → I z = I0 z) ∧ (∀ k, k ≠ 40 → k ≠ 41 → k ≠ 42 → I mo k = I0 mo k) ∧ ((o = none ∧ (I mo 41).toInt = 1000000) ∨ ∃ (z : Int) (m : Nat) (l : List Nat), o = some (z, m, l) ∧ (I mo 41).toInt = z ∧ z < 1000000 ∧ (I mo 42).toInt = (m : Int) ∧ ∀ j, j < acs m → (I fp j).toInt = ((l.getD j 0 : Nat) : Int))
def Fcm (R : hR) (mo my pl so hcn tcn mr nmm al bp fp mm : Nat) : Prop := R mo 8 = some mm ∧ R mo 43 = some fp ∧ (fp ≠ mo ∧ fp ≠ pl ∧ fp ≠ bp) ∧ (mm ≠ mo ∧ mm ≠ pl ∧ mm ≠ bp ∧ mm ≠ fp) ∧ my ≠ fp ∧ so ≠ fp ∧ hcn ≠ fp ∧ tcn ≠ fp ∧ mr ≠ fp ∧ nmm ≠ fp ∧ al ≠ fp
section FF
variable {I0 : hI} {J : hJ} {R : hR} {mo my pl so hcn tcn mr nmm al bp fp mm F af s n : Nat} {acs : Nat → Nat}
theorem copy2_l {x1 x2 x3 : Int32} {k : hI → hJ → hR → Int32 → (Int32 × hU)} (v39 : R mo 39 = some bp) (v43 : R mo 43 = some fp) (hpb : bp ≠ fp) : ∀ (g j : Nat) (I : hI) (xj : Int32), xj.toInt = j → j ≤ 4 → 4 < g + j → (∀ i, i < j → I fp i = I bp i) →
    ∃ I1, F_X11_findFit_54 mo x1 x2 x3 k g I J R xj = F_X11_findFit_80 mo x1 x2 x3 k I1 J R ∧ (∀ c, c ≠ fp → I1 c = I c) ∧ ∀ i, i < 4 → I1 fp i = I bp i := by
  intro g
  induction g with
  | zero => intro j I xj _ h1 h2; omega
  | succ g ih =>
    intro j I xj hj hj4 hg hI
    rw [F_X11_findFit_54_s]
    simp only [B_X11_findFit_54, nm, v39, v43, Option.getD_some, clamp_toInt hj]
    by_cases e : j = 4
    · rw [if_pos (by rw [ile, hj, cI4]; omega)]
      exact ⟨I, rfl, fun _ _ => rfl, fun i hi => hI i (by omega)⟩
    · rw [if_neg (by rw [ile, hj, cI4]; omega)]
      obtain ⟨I1, a1, a2, a3⟩ := ih (j + 1) (u2 I fp j (I bp j)) (xj + 1) (by rw [add1 (b := 4) (by omega) (by omega), hj]; omega) (by omega) (by omega) (fun i hi => by
        rw [u2_ne hpb]
        by_cases z : i = j
        · rw [z, u2_at]
        · rw [u2_nk z]; exact hI i (by omega))
      refine ⟨I1, a1, fun c hc => (a2 c hc).trans (u2_ne hc), fun i hi => ?_⟩
      rw [a3 i hi, u2_ne hpb]
theorem ff_l (cx : Mcx R mo my pl so hcn tcn mr nmm al bp) (cy : Fcm R mo my pl so hcn tcn mr nmm al bp fp mm) {x1 x2 : Int32} (h1 : x1.toInt = F) (h2 : x2.toInt = s) (hs : s < 20) (hn : (I0 mm s).toInt = n) (hn6 : n ≤ 6) (rgs : ∀ m, m < 6 → Mrg I0 my so tcn mr F (6 * s + m) af (acs m)) (hnm : ∀ q, q < 120 → 0 ≤ (I0 nmm q).toInt ∧ (I0 nmm q).toInt ≤ 99) :
    ∀ (r g m : Nat) (I : hI) (xm : Int32) (o : Option (Int × Nat × List Nat)), xm.toInt = m → m + r = n → r < g → Mf mo pl bp fp acs I0 I o →
      ∃ I1, F_X11_findFit_8 mo x1 x2 g I J R xm = (if (foM (fun m => svO so hcn tcn mr nmm al F (6 * s + m) af (acs m) I0) r m o).isSome = true then 1 else 0, (I1, J, R)) ∧ Mf mo pl bp fp acs I0 I1 (foM (fun m => svO so hcn tcn mr nmm al F (6 * s + m) af (acs m) I0) r m o) := by
  obtain ⟨v8, v43, ⟨f1, f2, f3⟩, ⟨mm1, mm2, mm3, mm4⟩, g1, g2, g3, g4, g5, g6, g7⟩ := cy
  have cx0 := cx
  obtain ⟨v10, v38, v11, v19, v32, v12, v9, v17, v39, ⟨p1, p2, p3⟩, ⟨my1, my2, my3⟩, ⟨so1, so2, so3⟩, ⟨hc1, hc2, hc3⟩, ⟨tc1, tc2, tc3⟩, ⟨mr1, mr2, mr3⟩, ⟨nm1, nm2, nm3⟩, ⟨al1, al2, al3⟩⟩ := cx
  intro r
  induction r with
  | zero =>
    intro g m I xm o hm hr hg hI
    obtain ⟨g', rfl⟩ : ∃ g', g = g' + 1 := ⟨g - 1, by omega⟩
    rw [F_X11_findFit_8_s]
    simp only [B_X11_findFit_8, F_X11_findFit_100, nm, nmU, v8, Option.getD_some, clamp_toInt h2]
    rw [hI.1 mm mm1 mm2 mm3 mm4, if_pos (by rw [ile, hn, hm]; omega)]
    refine ⟨I, ?_, hI⟩
    have cM : Int32.toInt 1000000 = 1000000 := by decide
    rcases hI.2.2 with ⟨e1, e2⟩ | ⟨z, m1, l, e1, e2, e3, -⟩
    · rw [if_pos (show (1000000 : Int32) ≤ I mo 41 by rw [ile, cM, e2]; omega), e1]
      rfl
    · rw [if_neg (show ¬ (1000000 : Int32) ≤ I mo 41 by rw [ile, cM, e2]; omega), e1]
      rfl
  | succ r ih =>
    intro g m I xm o hm hr hg hI
    have hI0 := hI
    obtain ⟨i1, i2, i3⟩ := hI
    obtain ⟨g', rfl⟩ : ∃ g', g = g' + 1 := ⟨g - 1, by omega⟩
    rw [F_X11_findFit_8_s]
    simp only [B_X11_findFit_8, F_X11_findFit_80, nm, nmU, v8, Option.getD_some, clamp_toInt h2]
    rw [i1 mm mm1 mm2 mm3 mm4, if_neg (by rw [ile, hn, hm]; omega)]
    have ey := i1 my my1 my2 my3 g1
    have es := i1 so so1 so2 so3 g2
    have eh := i1 hcn hc1 hc2 hc3 g3
    have et := i1 tcn tc1 tc2 tc3 g4
    have er := i1 mr mr1 mr2 mr3 g5
    have en := i1 nmm nm1 nm2 nm3 g6
    have ea := i1 al al1 al2 al3 g7
    have rg : Mrg I my so tcn mr F (6 * s + m) af (acs m) := by
      have := rgs m (by omega)
      unfold Mrg at *
      rw [ey, es, et, er]
      exact this
    have eO : svO so hcn tcn mr nmm al F (6 * s + m) af (acs m) I = svO so hcn tcn mr nmm al F (6 * s + m) af (acs m) I0 := by
      unfold svO nmO tcM hcM rsM
      rw [es, eh, et, er, en, ea]
    have hc2' : (6 * x2 + xm).toInt = ((6 * s + m : Nat) : Int) := by rw [iadd (imul (x := 6) cI6 h2 (by omega) (by omega)) hm (by omega) (by omega)]; omega
    obtain ⟨rv, I1, a1, a2, a3⟩ := serveE (J := J) cx0 rg (by rw [en]; exact hnm) h1 hc2'
    rw [eO] at a2 a3
    obtain ⟨O, hO⟩ : ∃ O, O = svO so hcn tcn mr nmm al F (6 * s + m) af (acs m) I0 := ⟨_, rfl⟩
    rw [← hO] at a2 a3
    obtain ⟨b1, b2, b3, b4⟩ := a2
    have hfo : foM (fun m => svO so hcn tcn mr nmm al F (6 * s + m) af (acs m) I0) (r + 1) m o = foM (fun m => svO so hcn tcn mr nmm al F (6 * s + m) af (acs m) I0) r (m + 1) (stM o m O) := by rw [hO]; rfl
    rw [a1, hfo]
    dsimp only
    have m41 : I1 mo 41 = I mo 41 := b2 41 (by decide)
    have hm1 : (xm + 1).toInt = ((m + 1 : Nat) : Int) := by rw [add1 (b := 6) (by omega) (by omega), hm]; omega
    have bnd : (I mo 41).toInt = bo3 1000000 o ∧ bo3 1000000 o ≤ 1000000 := by
      rcases i3 with ⟨e1, e2⟩ | ⟨z, m1, l, e1, e2, e3, -⟩
      · rw [e1]; exact ⟨e2, Int.le_refl _⟩
      · rw [e1]; exact ⟨e2, by show z ≤ 1000000; omega⟩
    by_cases hle : I1 mo 41 ≤ rv
    · rw [if_pos hle]
      have hle := Rg_le hle
      rw [m41, bnd.1, a3] at hle
      have est : stM o m O = o := by
        cases O with
        | none => rfl
        | some q => exact if_neg (by have : bo3 1000000 o ≤ q.1 := hle; omega)
      rw [est]
      refine ih g' (m + 1) I1 (xm + 1) o hm1 (by omega) (by omega) ⟨fun z z1 z2 z3 z4 => by rw [b1 z z1 z2 z3]; exact i1 z z1 z2 z3 z4, fun k k1 k2 k3 => by rw [b2 k k1]; exact i2 k k1 k2 k3, ?_⟩
      rw [m41, b2 42 (by decide), b1 fp f1 f2 f3]
      exact i3
    · rw [if_neg hle]
      have hlt := Rg_nle hle
      rw [m41, bnd.1, a3] at hlt
      cases O with
      | none => have : (1000000 : Int) < bo3 1000000 o := hlt; omega
      | some q =>
        have hq : q.1 < bo3 1000000 o := hlt
        have est : stM o m (some q) = some (q.1, m, q.2) := if_pos hq
        rw [est]
        obtain ⟨I2, c1, c2, c3⟩ := copy2_l (J := J) (R := R) (mo := mo) (bp := bp) (fp := fp) (x1 := x1) (x2 := x2) (x3 := xm) (k := F_X11_findFit_8 mo x1 x2 g') v39 v43 (fun e => f3 e.symm) 5 0 (u2 (u2 I1 mo 41 rv) mo 42 xm) 0 (by decide) (by omega) (by omega) (fun i hi => by omega)
        have c1 : F_X11_findFit_54 mo x1 x2 xm (F_X11_findFit_8 mo x1 x2 g') ((4 - (0 : Int32).toInt).toNat + 1) (u2 (u2 I1 mo 41 rv) mo 42 xm) J R 0 = F_X11_findFit_80 mo x1 x2 xm (F_X11_findFit_8 mo x1 x2 g') I2 J R := c1
        rw [c1]
        simp only [F_X11_findFit_80, nm]
        refine ih g' (m + 1) I2 (xm + 1) (some (q.1, m, q.2)) hm1 (by omega) (by omega) ⟨fun z z1 z2 z3 z4 => by rw [c2 z z4, u2_ne z1, u2_ne z1, b1 z z1 z2 z3]; exact i1 z z1 z2 z3 z4, fun k k1 k2 k3 => by rw [c2 mo (fun e => f1 e.symm), u2_nk k3, u2_nk k2, b2 k k1]; exact i2 k k1 k2 k3, Or.inr ⟨q.1, m, q.2, rfl, ?_, ?_, ?_, fun j hj => ?_⟩⟩
        · rw [c2 mo (fun e => f1 e.symm), u2_nk (by decide), u2_at]; exact a3
        · have := bnd.2; omega
        · rw [c2 mo (fun e => f1 e.symm), u2_at]; exact hm
        · have h4 := rg.2.2.2.2.2.1
          rw [c3 j (by omega), u2_ne p2, u2_ne p2]
          exact b4 q rfl j hj
theorem findFitE (cx : Mcx R mo my pl so hcn tcn mr nmm al bp) (cy : Fcm R mo my pl so hcn tcn mr nmm al bp fp mm) {x1 x2 : Int32} (h1 : x1.toInt = F) (h2 : x2.toInt = s) (hs : s < 20) (hn : (I0 mm s).toInt = n) (hn6 : n ≤ 6) (rgs : ∀ m, m < 6 → Mrg I0 my so tcn mr F (6 * s + m) af (acs m)) (hnm : ∀ q, q < 120 → 0 ≤ (I0 nmm q).toInt ∧ (I0 nmm q).toInt ≤ 99) {I : hI} {o0 : Option (Int × Nat × List Nat)} (hI : Mf mo pl bp fp acs I0 I o0 ∨ ((∀ z, z ≠ mo → z ≠ pl → z ≠ bp → z ≠ fp → I z = I0 z) ∧ ∀ k, k ≠ 40 → k ≠ 41 → k ≠ 42 → I mo k = I0 mo k)) :
    ∃ I1, F_X11_findFit mo x1 x2 I J R = (if (foM (fun m => svO so hcn tcn mr nmm al F (6 * s + m) af (acs m) I0) n 0 none).isSome = true then 1 else 0, (I1, J, R)) ∧ Mf mo pl bp fp acs I0 I1 (foM (fun m => svO so hcn tcn mr nmm al F (6 * s + m) af (acs m) I0) n 0 none) := by
  have hf : (∀ z, z ≠ mo → z ≠ pl → z ≠ bp → z ≠ fp → I z = I0 z) ∧ ∀ k, k ≠ 40 → k ≠ 41 → k ≠ 42 → I mo k = I0 mo k := by
    rcases hI with h | h
    · exact ⟨h.1, h.2.1⟩
    · exact h
  have m0 : Mf mo pl bp fp acs I0 (u2 I mo 41 1000000) none := ⟨fun z z1 z2 z3 z4 => by rw [u2_ne z1]; exact hf.1 z z1 z2 z3 z4, fun k k1 k2 k3 => by rw [u2_nk k2]; exact hf.2 k k1 k2 k3, Or.inl ⟨rfl, by rw [u2_at]; decide⟩⟩
  exact ff_l (J := J) cx cy h1 h2 hs hn hn6 rgs hnm n 7 0 (u2 I mo 41 1000000) 0 none (by decide) (by omega) (by omega) m0
end FF
