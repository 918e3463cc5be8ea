/-! the rules, in the class and in the model -/
def CelR (L : List Nat) (C : Nat → Nat) (x mo : Nat) (R : hR) (ru rf rt rc rb rm rth w fi mf mt mc mb mp mi : Nat) : Prop :=
  At L C R x 0 ru 6 ∧ At L C R ru 0 rf 32 ∧ At L C R ru 1 rt 33 ∧ At L C R ru 2 rc 34 ∧ At L C R ru 3 rb 35 ∧ At L C R ru 4 rm 36 ∧ At L C R ru 5 rth 37 ∧ At L C R ru 8 w 38 ∧ At L C R ru 9 fi 39 ∧ At L C R mo 2 mf 64 ∧ At L C R mo 3 mt 65 ∧ At L C R mo 4 mc 66 ∧ At L C R mo 5 mb 67 ∧ At L C R mo 6 mp 68 ∧ At L C R mo 7 mi 69
def EqR (I : hI) (mo ru rf rt rc rb rm rth mf mt mc mb mp mi : Nat) : Prop := I ru 6 = I mo 1 ∧ I rf = I mf ∧ I rt = I mt ∧ I rc = I mc ∧ I rth = I mi ∧ I rm = I mp ∧ (∀ e, e ≠ 8 → I rb e = I mb e) ∧ I rb 8 = 10 ∧ 12 ≤ (I ru 6).toInt ∧ I rt 7 = 4 ∧ I rt 9 = 3
def RR (L : List Nat) (C : Nat → Nat) (x mo : Nat) (u : hU) : Prop := C x = 10 ∧ C mo = 11 ∧ ∃ ru rf rt rc rb rm rth w fi mf mt mc mb mp mi : Nat, CelR L C x mo u.2.2 ru rf rt rc rb rm rth w fi mf mt mc mb mp mi ∧ EqR u.1 mo ru rf rt rc rb rm rth mf mt mc mb mp mi ∧ Tb u.1 ru rf rt rc rth w fi
def codesR : List Nat := [640, 384, 385, 386, 387, 388, 389, 390, 392, 393, 2048, 2112, 2176, 2240, 2304, 2368, 2432, 2496, 705, 706, 707, 708, 709, 710, 711, 4096, 4160, 4224, 4288, 4352, 4416]
theorem RR.sm {L : List Nat} {C : Nat → Nat} {x mo : Nat} {ms : List Nat} {u v : hU} (rel : RR L C x mo u) (oR : OkR L C v.2.2) (s : Sm C ms u v) (hm : codesR.all (fun z => !ms.contains z) = true) : RR L C x mo v := by
  obtain ⟨kx, km, ru, rf, rt, rc, rb, rm, rth, w, fi, mf, mt, mc, mb, mp, mi, c, e, t⟩ := rel
  have hn : ∀ z ∈ codesR, ms.contains z = false := fun z hz => by have := List.all_eq_true.mp hm z hz; simpa using this
  obtain ⟨c0, c1, c2, c3, c4, c5, c6, c7, c8, d1, d2, d3, d4, d5, d6⟩ := c
  have kr := c0.2.1
  refine ⟨kx, km, ru, rf, rt, rc, rb, rm, rth, w, fi, mf, mt, mc, mb, mp, mi, ⟨c0.sm s kx (hn 640 (by decide)), c1.sm s kr (hn 384 (by decide)), c2.sm s kr (hn 385 (by decide)), c3.sm s kr (hn 386 (by decide)), c4.sm s kr (hn 387 (by decide)), c5.sm s kr (hn 388 (by decide)), c6.sm s kr (hn 389 (by decide)), c7.sm s kr (hn 392 (by decide)), c8.sm s kr (hn 393 (by decide)), d1.sm s km (hn 706 (by decide)), d2.sm s km (hn 707 (by decide)), d3.sm s km (hn 708 (by decide)), d4.sm s km (hn 709 (by decide)), d5.sm s km (hn 710 (by decide)), d6.sm s km (hn 711 (by decide))⟩, ?_, ?_⟩
  · unfold EqR at *
    rw [smO (k := 6) s kr (hn 390 (by decide)), smO (k := 1) s km (hn 705 (by decide)), smA s c1.2.1 (by decide) (hn 2048 (by decide)), smA s c2.2.1 (by decide) (hn 2112 (by decide)), smA s c3.2.1 (by decide) (hn 2176 (by decide)), smA s c4.2.1 (by decide) (hn 2240 (by decide)), smA s c5.2.1 (by decide) (hn 2304 (by decide)), smA s c6.2.1 (by decide) (hn 2368 (by decide)), smA s d1.2.1 (by decide) (hn 4096 (by decide)), smA s d2.2.1 (by decide) (hn 4160 (by decide)), smA s d3.2.1 (by decide) (hn 4224 (by decide)), smA s d4.2.1 (by decide) (hn 4288 (by decide)), smA s d5.2.1 (by decide) (hn 4352 (by decide)), smA s d6.2.1 (by decide) (hn 4416 (by decide))]
    exact e
  · exact t.of (smO (k := 6) s kr (hn 390 (by decide))) (smA s c1.2.1 (by decide) (hn 2048 (by decide))) (smA s c2.2.1 (by decide) (hn 2112 (by decide))) (smA s c3.2.1 (by decide) (hn 2176 (by decide))) (smA s c6.2.1 (by decide) (hn 2368 (by decide))) (smA s c7.2.1 (by decide) (hn 2432 (by decide))) (smA s c8.2.1 (by decide) (hn 2496 (by decide)))
theorem RlO {L : List Nat} {C : Nat → Nat} {I : hI} {R : hR} {p ru rf rt rc : Nat} {i j k : Nat} (oI : OkI L C I) (hru : ru ∈ L ∧ C ru = 6) (h1 : rf ∈ L ∧ C rf = 32) (h2 : rt ∈ L ∧ C rt = 33) (h3 : rc ∈ L ∧ C rc = 34) : Rl I ru rf rt rc := by
  refine ⟨rf_6_6 oI hru.1 hru.2, fun e he => ?_⟩
  have q1 := oI rf h1.1 e (by rw [h1.2]; exact he)
  have q2 := oI rt h2.1 e (by rw [h2.2]; exact he)
  have q3 := oI rc h3.1 e (by rw [h3.2]; exact he)
  rw [h1.2] at q1
  rw [h2.2] at q2
  rw [h3.2] at q3
  exact ⟨⟨q1.1, q1.2.1⟩, ⟨q2.1, q2.2.1⟩, ⟨q3.1, q3.2.1⟩⟩
theorem RlOM {L : List Nat} {C : Nat → Nat} {I : hI} {mo mf mt mc : Nat} (oI : OkI L C I) (hru : mo ∈ L ∧ C mo = 11) (h1 : mf ∈ L ∧ C mf = 64) (h2 : mt ∈ L ∧ C mt = 65) (h3 : mc ∈ L ∧ C mc = 66) : RlM I mo mf mt mc := by
  refine ⟨rf_11_1 oI hru.1 hru.2, fun e he => ?_⟩
  have q1 := oI mf h1.1 e (by rw [h1.2]; exact he)
  have q2 := oI mt h2.1 e (by rw [h2.2]; exact he)
  have q3 := oI mc h3.1 e (by rw [h3.2]; exact he)
  rw [h1.2] at q1
  rw [h2.2] at q2
  rw [h3.2] at q3
  exact ⟨⟨q1.1, q1.2.1⟩, ⟨q2.1, q2.2.1⟩, ⟨q3.1, q3.2.1⟩⟩
/-- measure() in the pool -/
theorem measP {L : List Nat} {C : Nat → Nat} {ru rf rt rc rth w fi : Nat} {I : hI} {J : hJ} {R : hR} (k0 : C ru = 6) (c1 : At L C R ru 0 rf 32) (c2 : At L C R ru 1 rt 33) (c3 : At L C R ru 2 rc 34) (c6 : At L C R ru 5 rth 37) (c7 : At L C R ru 8 w 38) (c8 : At L C R ru 9 fi 39) (hr : Rl I ru rf rt rc) :
    ∃ I1, F_X6_measure ru I J R = (I1, J, R) ∧ (∀ c, C c ≠ 38 → C c ≠ 39 → I1 c = I c) ∧ Tb I1 ru rf rt rc rth w fi := by
  have kw := c7.2.1
  have kf := c8.2.1
  obtain ⟨I1, e1, e2, e3⟩ := meas (J := J) c1.2.2 c2.2.2 c3.2.2 c6.2.2 c7.2.2 c8.2.2 (ne_role k0 kw (by decide)) (ne_role c1.2.1 kw (by decide)) (ne_role c2.2.1 kw (by decide)) (ne_role c3.2.1 kw (by decide)) (ne_role c6.2.1 kw (by decide)) (ne_role k0 kf (by decide)) (ne_role c1.2.1 kf (by decide)) (ne_role c2.2.1 kf (by decide)) (ne_role c3.2.1 kf (by decide)) (ne_role c6.2.1 kf (by decide)) (ne_role kw kf (by decide)) hr
  exact ⟨I1, e1, fun c h1 h2 => e2 c (fun e => h1 (by rw [e, kw])) (fun e => h2 (by rw [e, kf])), e3⟩
def TbR (L : List Nat) (C : Nat → Nat) (I : hI) (R : hR) (ru : Nat) : Prop := ∀ rf rt rc rth w fi, At L C R ru 0 rf 32 → At L C R ru 1 rt 33 → At L C R ru 2 rc 34 → At L C R ru 5 rth 37 → At L C R ru 8 w 38 → At L C R ru 9 fi 39 → Tb I ru rf rt rc rth w fi
theorem TbR.mk {L : List Nat} {C : Nat → Nat} {I I1 : hI} {J J1 : hJ} {R R1 : hR} {ru : Nat} (oI : OkI L C I) (m : ru ∈ L) (k : C ru = 6) (hf : F_X6_measure ru I J R = (I1, J1, R1)) : TbR L C I1 R ru := fun rf rt rc rth w fi c1 c2 c3 c6 c7 c8 => by
  obtain ⟨K, e1, -, e3⟩ := measP (J := J) k c1 c2 c3 c6 c7 c8 (RlO (R := R) (p := 0) (i := 0) (j := 0) (k := 0) oI ⟨m, k⟩ ⟨c1.1, c1.2.1⟩ ⟨c2.1, c2.2.1⟩ ⟨c3.1, c3.2.1⟩)
  rw [e1] at hf
  cases hf
  exact e3
theorem TbR.old {L L1 : List Nat} {C C1 : Nat → Nat} {I I1 : hI} {J J1 : hJ} {R R1 : hR} {ru a0 : Nat} (tb : TbR L C I R ru) (ok : OkR L C R) (m : ru ∈ L) (k : C ru = 6) (hne : ∀ c ∈ L, (C c = 6 ∨ (32 ≤ C c ∧ C c ≤ 39)) → c ≠ a0) (od : Old L C (I, J, R) a0 L1 C1 I1 J1 R1) : TbR L1 C1 I1 R1 ru := fun rf rt rc rth w fi c1 c2 c3 c6 c7 c8 => by
  obtain ⟨-, o1⟩ := od ru m
  obtain ⟨o2, o3, -, o4⟩ := o1 (hne ru m (Or.inl k))
  have o3 : I1 ru = I ru := o3
  have o4 : R1 ru = R ru := o4
  have key : ∀ j b r, At L1 C1 R1 ru j b r → (∃ d, d ∈ L ∧ R ru j = some d ∧ C d = r) → 32 ≤ r → r ≤ 39 → At L C R ru j b r ∧ I1 b = I b := fun j b r h ⟨d, d1, d2, d3⟩ h1 h2 => by
    have e : b = d := Option.some.inj ((h.2.2.symm.trans (congrFun o4 j)).trans d2)
    subst e
    exact ⟨⟨d1, d3, d2⟩, ((od b d1).2 (hne b d1 (Or.inr (by omega)))).2.1⟩
  obtain ⟨a1, b1⟩ := key 0 rf 32 c1 (rf_6_0 ok m k) (by decide) (by decide)
  obtain ⟨a2, b2⟩ := key 1 rt 33 c2 (rf_6_1 ok m k) (by decide) (by decide)
  obtain ⟨a3, b3⟩ := key 2 rc 34 c3 (rf_6_2 ok m k) (by decide) (by decide)
  obtain ⟨a6, b6⟩ := key 5 rth 37 c6 (rf_6_5 ok m k) (by decide) (by decide)
  obtain ⟨a7, b7⟩ := key 8 w 38 c7 (rf_6_8 ok m k) (by decide) (by decide)
  obtain ⟨a8, b8⟩ := key 9 fi 39 c8 (rf_6_9 ok m k) (by decide) (by decide)
  exact (tb rf rt rc rth w fi a1 a2 a3 a6 a7 a8).of (by rw [o3]) b1 b2 b3 b6 b7 b8
theorem RR.init {L : List Nat} {C : Nat → Nat} {x mo ru rf rt rc rb rm rth mf mt mc mb mp mi : Nat} {I : hI} {J : hJ} {R : hR} (oR : OkR L C R) (uq : Uq L C) (mx : x ∈ L) (kx : C x = 10) (mm : mo ∈ L) (km : C mo = 11) (mru : ru ∈ L) (kru : C ru = 6) (mrf : rf ∈ L) (krf : C rf = 32) (mrt : rt ∈ L) (krt : C rt = 33) (mrc : rc ∈ L) (krc : C rc = 34) (mrb : rb ∈ L) (krb : C rb = 35) (mrm : rm ∈ L) (krm : C rm = 36) (mrth : rth ∈ L) (krth : C rth = 37)
    (mmf : mf ∈ L) (kmf : C mf = 64) (mmt : mt ∈ L) (kmt : C mt = 65) (mmc : mc ∈ L) (kmc : C mc = 66) (mmb : mb ∈ L) (kmb : C mb = 67) (mmp : mp ∈ L) (kmp : C mp = 68) (mmi : mi ∈ L) (kmi : C mi = 69) {tru : Nat} (mt' : tru ∈ L) (kt : C tru = 6) (tb : TbR L C I R tru)
    (h6 : I ru 6 = 12) (h1 : I mo 1 = 12) (e2 : I rf = I mf) (e3 : I rt = I mt) (e4 : I rc = I mc) (e5 : I rth = I mi) (e6 : I rm = I mp) (e7 : ∀ e, e ≠ 8 → I rb e = I mb e) (e8 : I rb 8 = 10) (e10 : I rt 7 = 4) (e11 : I rt 9 = 3) : RR L C x mo (I, J, R) := by
  obtain rfl : tru = ru := uq _ mt' _ mru (kt.trans kru.symm) (by rw [kt]; rfl)
  have at_ : ∀ p j b r, r < 128 → rU r = true → b ∈ L → C b = r → (∃ d, d ∈ L ∧ R p j = some d ∧ C d = r) → At L C R p j b r := fun p j b r _ hu hb kb ⟨d, d1, d2, d3⟩ => by
    obtain rfl : d = b := uq _ d1 _ hb (d3.trans kb.symm) (by rw [d3]; exact hu)
    exact ⟨hb, kb, d2⟩
  obtain ⟨w, mw, vw, kw⟩ := rf_6_8 oR mru kru
  obtain ⟨fi, mfi, vfi, kfi⟩ := rf_6_9 oR mru kru
  have c1 := at_ tru 0 rf 32 (by decide) rfl mrf krf (rf_6_0 oR mru kru)
  have c2 := at_ tru 1 rt 33 (by decide) rfl mrt krt (rf_6_1 oR mru kru)
  have c3 := at_ tru 2 rc 34 (by decide) rfl mrc krc (rf_6_2 oR mru kru)
  have c6 := at_ tru 5 rth 37 (by decide) rfl mrth krth (rf_6_5 oR mru kru)
  refine ⟨kx, km, tru, rf, rt, rc, rb, rm, rth, w, fi, mf, mt, mc, mb, mp, mi, ⟨at_ x 0 tru 6 (by decide) rfl mru kru (rf_10_0 oR mx kx), c1, c2, c3, at_ tru 3 rb 35 (by decide) rfl mrb krb (rf_6_3 oR mru kru), at_ tru 4 rm 36 (by decide) rfl mrm krm (rf_6_4 oR mru kru), c6, ⟨mw, kw, vw⟩, ⟨mfi, kfi, vfi⟩, at_ mo 2 mf 64 (by decide) rfl mmf kmf (rf_11_2 oR mm km), at_ mo 3 mt 65 (by decide) rfl mmt kmt (rf_11_3 oR mm km), at_ mo 4 mc 66 (by decide) rfl mmc kmc (rf_11_4 oR mm km), at_ mo 5 mb 67 (by decide) rfl mmb kmb (rf_11_5 oR mm km), at_ mo 6 mp 68 (by decide) rfl mmp kmp (rf_11_6 oR mm km), at_ mo 7 mi 69 (by decide) rfl mmi kmi (rf_11_7 oR mm km)⟩, ⟨?_, e2, e3, e4, e5, e6, e7, e8, ?_, e10, e11⟩, tb rf rt rc rth w fi c1 c2 c3 c6 ⟨mw, kw, vw⟩ ⟨mfi, kfi, vfi⟩⟩
  · show I tru 6 = I mo 1
    rw [h6, h1]
  · show 12 ≤ (I tru 6).toInt
    rw [h6]; decide
section RULE
variable {L : List Nat} {C : Nat → Nat} {x mo ru rf rt rc rb rm rth w fi mf mt mc mb mp mi : Nat} {I : hI} {J : hJ} {R : hR} {x1 x2 x3 x4 : Int32}
theorem keep6 (k0 : C ru = 6) (c1 : At L C R ru 0 rf 32) (c2 : At L C R ru 1 rt 33) (c3 : At L C R ru 2 rc 34) (c4 : At L C R ru 3 rb 35) (c5 : At L C R ru 4 rm 36) (c6 : At L C R ru 5 rth 37) {p q : Int32} :
    ∃ I1, F_X6_keep ru x1 x2 x3 p q I J R = (I1, J, R) ∧ I1 ru 6 = I ru 6 + 1 ∧ I1 rf = up (I rf) (I ru 6).toNatClampNeg x1 ∧ I1 rt = up (I rt) (I ru 6).toNatClampNeg x2 ∧ I1 rc = up (I rc) (I ru 6).toNatClampNeg x3 ∧ I1 rb = up (I rb) (I ru 6).toNatClampNeg p ∧ I1 rm = up (I rm) (I ru 6).toNatClampNeg q ∧ I1 rth = up (I rth) (I ru 6).toNatClampNeg 1 ∧ (∀ c, C c = 45 → I1 c = I c) ∧ I1 ru 7 = I ru 7 + 1 := by
  have k1 := c1.2.1
  have k2 := c2.2.1
  have k3 := c3.2.1
  have k4 := c4.2.1
  have k5 := c5.2.1
  have k6 := c6.2.1
  simp only [F_X6_keep, nm, c1.2.2, c2.2.2, c3.2.2, c4.2.2, c5.2.2, c6.2.2, Option.getD_some]
  refine ⟨_, rfl, ?_, ?_, ?_, ?_, ?_, ?_, ?_, fun c kc => ?_, ?_⟩
  · rw [u2_nk (by decide), u2_at]
  · rw [u2_ne (ne_role k1 k0 (by decide)), u2_ne (ne_role k1 k0 (by decide)), u2_ne (ne_role k1 k6 (by decide)), u2_ne (ne_role k1 k5 (by decide)), u2_ne (ne_role k1 k4 (by decide)), u2_ne (ne_role k1 k3 (by decide)), u2_ne (ne_role k1 k2 (by decide)), u2_up]
  · rw [u2_ne (ne_role k2 k0 (by decide)), u2_ne (ne_role k2 k0 (by decide)), u2_ne (ne_role k2 k6 (by decide)), u2_ne (ne_role k2 k5 (by decide)), u2_ne (ne_role k2 k4 (by decide)), u2_ne (ne_role k2 k3 (by decide)), u2_up, u2_ne (ne_role k2 k1 (by decide))]
  · rw [u2_ne (ne_role k3 k0 (by decide)), u2_ne (ne_role k3 k0 (by decide)), u2_ne (ne_role k3 k6 (by decide)), u2_ne (ne_role k3 k5 (by decide)), u2_ne (ne_role k3 k4 (by decide)), u2_up, u2_ne (ne_role k3 k2 (by decide)), u2_ne (ne_role k3 k1 (by decide))]
  · rw [u2_ne (ne_role k4 k0 (by decide)), u2_ne (ne_role k4 k0 (by decide)), u2_ne (ne_role k4 k6 (by decide)), u2_ne (ne_role k4 k5 (by decide)), u2_up, u2_ne (ne_role k4 k3 (by decide)), u2_ne (ne_role k4 k2 (by decide)), u2_ne (ne_role k4 k1 (by decide))]
  · rw [u2_ne (ne_role k5 k0 (by decide)), u2_ne (ne_role k5 k0 (by decide)), u2_ne (ne_role k5 k6 (by decide)), u2_up, u2_ne (ne_role k5 k4 (by decide)), u2_ne (ne_role k5 k3 (by decide)), u2_ne (ne_role k5 k2 (by decide)), u2_ne (ne_role k5 k1 (by decide))]
  · rw [u2_ne (ne_role k6 k0 (by decide)), u2_ne (ne_role k6 k0 (by decide)), u2_up, u2_ne (ne_role k6 k5 (by decide)), u2_ne (ne_role k6 k4 (by decide)), u2_ne (ne_role k6 k3 (by decide)), u2_ne (ne_role k6 k2 (by decide)), u2_ne (ne_role k6 k1 (by decide))]
  · rw [u2_ne (ne_role kc k0 (by decide)), u2_ne (ne_role kc k0 (by decide)), u2_ne (ne_role kc k6 (by decide)), u2_ne (ne_role kc k5 (by decide)), u2_ne (ne_role kc k4 (by decide)), u2_ne (ne_role kc k3 (by decide)), u2_ne (ne_role kc k2 (by decide)), u2_ne (ne_role kc k1 (by decide))]
  · rw [u2_at, u2_nk (by decide), u2_ne (ne_role k0 k6 (by decide)), u2_ne (ne_role k0 k5 (by decide)), u2_ne (ne_role k0 k4 (by decide)), u2_ne (ne_role k0 k3 (by decide)), u2_ne (ne_role k0 k2 (by decide)), u2_ne (ne_role k0 k1 (by decide))]
theorem base11 (k0 : C mo = 11) (c1 : At L C R mo 2 mf 64) (c2 : At L C R mo 3 mt 65) (c3 : At L C R mo 4 mc 66) (c4 : At L C R mo 5 mb 67) (c5 : At L C R mo 6 mp 68) (c6 : At L C R mo 7 mi 69) :
    ∃ I1, F_X11_base mo x1 x2 x3 I J R = (I1, J, R) ∧ I1 mo 1 = I mo 1 + 1 ∧ I1 mf = up (I mf) (I mo 1).toNatClampNeg x1 ∧ I1 mt = up (I mt) (I mo 1).toNatClampNeg x2 ∧ I1 mc = up (I mc) (I mo 1).toNatClampNeg x3 ∧ I1 mb = up (I mb) (I mo 1).toNatClampNeg 1 ∧ I1 mp = up (I mp) (I mo 1).toNatClampNeg 0 ∧ I1 mi = up (I mi) (I mo 1).toNatClampNeg 1 := by
  have k1 := c1.2.1
  have k2 := c2.2.1
  have k3 := c3.2.1
  have k4 := c4.2.1
  have k5 := c5.2.1
  have k6 := c6.2.1
  simp only [F_X11_base, nm, c1.2.2, c2.2.2, c3.2.2, c4.2.2, c5.2.2, c6.2.2, Option.getD_some]
  refine ⟨_, rfl, ?_, ?_, ?_, ?_, ?_, ?_, ?_⟩
  · rw [u2_at]
  · rw [u2_ne (ne_role k1 k0 (by decide)), u2_ne (ne_role k1 k6 (by decide)), u2_ne (ne_role k1 k5 (by decide)), u2_ne (ne_role k1 k4 (by decide)), u2_ne (ne_role k1 k3 (by decide)), u2_ne (ne_role k1 k2 (by decide)), u2_up]
  · rw [u2_ne (ne_role k2 k0 (by decide)), u2_ne (ne_role k2 k6 (by decide)), u2_ne (ne_role k2 k5 (by decide)), u2_ne (ne_role k2 k4 (by decide)), u2_ne (ne_role k2 k3 (by decide)), u2_up, u2_ne (ne_role k2 k1 (by decide))]
  · rw [u2_ne (ne_role k3 k0 (by decide)), u2_ne (ne_role k3 k6 (by decide)), u2_ne (ne_role k3 k5 (by decide)), u2_ne (ne_role k3 k4 (by decide)), u2_up, u2_ne (ne_role k3 k2 (by decide)), u2_ne (ne_role k3 k1 (by decide))]
  · rw [u2_ne (ne_role k4 k0 (by decide)), u2_ne (ne_role k4 k6 (by decide)), u2_ne (ne_role k4 k5 (by decide)), u2_up, u2_ne (ne_role k4 k3 (by decide)), u2_ne (ne_role k4 k2 (by decide)), u2_ne (ne_role k4 k1 (by decide))]
  · rw [u2_ne (ne_role k5 k0 (by decide)), u2_ne (ne_role k5 k6 (by decide)), u2_up, u2_ne (ne_role k5 k4 (by decide)), u2_ne (ne_role k5 k3 (by decide)), u2_ne (ne_role k5 k2 (by decide)), u2_ne (ne_role k5 k1 (by decide))]
  · rw [u2_ne (ne_role k6 k0 (by decide)), u2_up, u2_ne (ne_role k6 k5 (by decide)), u2_ne (ne_role k6 k4 (by decide)), u2_ne (ne_role k6 k3 (by decide)), u2_ne (ne_role k6 k2 (by decide)), u2_ne (ne_role k6 k1 (by decide))]
end RULE
theorem il_rb : ∀ e, e ≠ 8 → il [(11, 1), (10, 1), (9, 1), (8, 10), (7, 1), (6, 1), (5, 1), (4, 1), (3, 1), (2, 1), (1, 1), (0, 1)] e = il [(11, 1), (10, 1), (9, 1), (8, 1), (7, 1), (6, 1), (5, 1), (4, 1), (3, 1), (2, 1), (1, 1), (0, 1)] e := by
  intro e he
  simp only [il]
  repeat' split
  all_goals first | rfl | (exfalso; omega)
def TbH (L : List Nat) (C : Nat → Nat) (I : hI) (R : hR) (ru : Nat) : Prop := TbR L C I R ru ∧ I ru 7 = 12
theorem TbH.old {L L1 : List Nat} {C C1 : Nat → Nat} {I I1 : hI} {J J1 : hJ} {R R1 : hR} {ru a0 : Nat} (tb : TbH L C I R ru) (ok : OkR L C R) (m : ru ∈ L) (k : C ru = 6) (hne : ∀ c ∈ L, (C c = 6 ∨ (32 ≤ C c ∧ C c ≤ 39)) → c ≠ a0) (od : Old L C (I, J, R) a0 L1 C1 I1 J1 R1) : TbH L1 C1 I1 R1 ru := by
  refine ⟨TbR.old tb.1 ok m k hne od, ?_⟩
  obtain ⟨-, o1⟩ := od ru m
  obtain ⟨-, o3, -, -⟩ := o1 (hne ru m (Or.inl k))
  have o3 : I1 ru = I ru := o3
  rw [o3]
  exact tb.2
theorem heldK {L : List Nat} {C : Nat → Nat} {a0 : Nat} {x1 x2 x3 x4 x5 : Int32} {I I1 : hI} {J J1 : hJ} {R R1 : hR} (oR : OkR L C R) (m : a0 ∈ L) (k : C a0 = 6) (hf : F_X6_keep a0 x1 x2 x3 x4 x5 I J R = (I1, J1, R1)) : I1 a0 7 = I a0 7 + 1 := by
  obtain ⟨b0, m0, v0, k0⟩ := rf_6_0 oR m k
  obtain ⟨b1, m1, v1, k1⟩ := rf_6_1 oR m k
  obtain ⟨b2, m2, v2, k2⟩ := rf_6_2 oR m k
  obtain ⟨b3, m3, v3, k3⟩ := rf_6_3 oR m k
  obtain ⟨b4, m4, v4, k4⟩ := rf_6_4 oR m k
  obtain ⟨b5, m5, v5, k5⟩ := rf_6_5 oR m k
  simp only [F_X6_keep, nm, v0, v1, v2, v3, v4, v5, Option.getD_some] at hf
  have e := congrFun (congrFun (congrArg (fun z => z.1) hf) a0) 7
  refine Eq.trans e.symm ?_
  show u2 _ _ _ _ a0 7 = _
  rw [u2_at, u2_nk (by decide), u2_ne (ne_role k k5 (by decide)), u2_ne (ne_role k k4 (by decide)), u2_ne (ne_role k k3 (by decide)), u2_ne (ne_role k k2 (by decide)), u2_ne (ne_role k k1 (by decide)), u2_ne (ne_role k k0 (by decide))]
