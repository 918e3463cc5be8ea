section CHX
variable {L : List Nat} {C : Nat → Nat} {x mo : Nat} {I Ia K Kb : hI} {J Jm : hJ} {R R1 : hR} {fi t p sh ru w al pa co ct : Nat}
set_option maxHeartbeats 2000000 in
/-- the model's side of it -/
theorem callX (oI : OkI L C I) (oR : OkR L C R) (km : C mo = 11) {rf rt rc rb rm rth f9 : Nat} (c0 : At L C R x 0 ru 6) (c1 : At L C R ru 0 rf 32) (c2 : At L C R ru 1 rt 33) (c3 : At L C R ru 2 rc 34) (c5 : At L C R ru 4 rm 36) (hT : Tb I ru rf rt rc rth w f9) (cl : ClF L C x R fi t p sh ru w al pa co ct) {m8 n9 y10 o11 e12 w13 f14 u15 t16 : Nat} (cel : CelM L C x mo R sh m8 n9 y10 o11 e12 w13 f14 u15 t16) (she : ShEq I R sh m8 n9 y10 o11 e12 w13 f14 u15 t16)
    {mt_ mb mp tc tm tr hv mh mf la_ : Nat} (d2 : At L C R mo 3 mt_ 65) (d4 : At L C R mo 5 mb 67) (d5 : At L C R mo 6 mp 68) (t1 : At L C R mo 32 tc 85) (t2 : At L C R mo 33 tm 86) (t3 : At L C R mo 34 tr 87) (dv : At L C R mo 20 hv 81) (df : At L C R mo 23 mf 83) (dh : At L C R mo 24 mh 84) {pl bp fp cl' cp ma mt : Nat} (i38 : At L C R mo 38 pl 90) (i39 : At L C R mo 39 bp 91) (i43 : At L C R mo 43 fp 92) (i50 : At L C R mo 50 cl' 97) (i51 : At L C R mo 51 cp 98) (i52 : At L C R mo 52 ma 99) (i53 : At L C R mo 53 mt 100)
    (hR1 : ∀ j, R1 mo j = R mo j) (hK : ∀ z r, C z = r → r ∉ exK → r ≠ 6 → r ≠ 4 → K z = I z) (hM : ∀ a, a < 7 → TbM K tc tm tr a (sr I rf) (sr I rt) (cs I rc) (pe I ru rth)) (ekt : I mt_ = I rt) (ekp : I mp = I rm) (ekb : (fun e => if e = 8 then 10 else I mb e) = I rb)
    {tg : Nat → Nat} {s0 j0 n : Nat} (hn : n ≤ 10) (cd : ChD L C fi sh w I J R tg s0 j0 n) (h : LkM C mo pl bp fp cl' cp fi sh I K J R tg s0 j0 n Kb) (him : ∀ k, k ≤ n → Ia (cmL fi sh I J R tg s0 j0 k) = I (cmL fi sh I J R tg s0 j0 k)) (his : ∀ k, k ≤ n → Ia (csL fi sh I J R tg s0 j0 k) = I (csL fi sh I J R tg s0 j0 k)) {fac : Nat} (vfac : R (cmL fi sh I J R tg s0 j0 n) 7 = some fac) (hfac : Ia fac = I fac) {kv : Int32 → Int64} (hkv : ∀ s : Int32, Jm hv s.toNatClampNeg = kv s) {x1 : Int32} {at_ : Nat} (hat : (x1 * 3 + I (cmL fi sh I J R tg s0 j0 n) 5).toNatClampNeg = at_) {hd : Nat → Int64} (hhd : Jm mh = hd) {fld : Int64} (hfld : Jm mf at_ = fld) :
    ∃ I1 J1 o, o = outA (arL fi sh I J R tg s0 j0) (fun k i => Ia (csL fi sh I J R tg s0 j0 k) i) (fun k => Ia (cmL fi sh I J R tg s0 j0 k) 1) (plL fi sh I J R tg s0 j0) (cvA rt rb rm f9 I) kv hd n (wkC Ia (cmL fi sh I J R tg s0 j0 n) fac (arL fi sh I J R tg s0 j0 n) fld) ∧ F_X11_callChain mo x1 Kb Jm R1 = (if o.1.isSome = true then 0 else -7, (I1, J1, R1)) ∧ (∀ z j, ¬ (z = mo ∧ (j = 26 ∨ j = 27 ∨ j = 28)) → I1 z j = Kb z j) ∧ (∀ z j, ¬ (z = mo ∧ (j = 31 ∨ j = 37 ∨ j = 54 ∨ j = 55 ∨ j = 25)) → z ≠ ma → z ≠ mt → ¬ (z = mf ∧ j = at_) → J1 z j = Jm z j) ∧ J1 mf at_ = o.2.getD fld ∧ J1 mo 25 = o.1.getD (Jm mo 25) := by
  obtain ⟨g4, g8, g9, g10, g11, g12, g13, g14, g15, g16⟩ := id cel
  obtain ⟨hF, h49, hcl, hcp⟩ := id h
  have fr : ∀ z r, C z = r → r ∉ exW → r ∉ [90, 91, 92] → Kb z = K z := fun z r hz h1 h2 => by
    have nq : ∀ c r', C c = r' → r' ∈ [90, 91, 92] → z ≠ c := fun c r' hc hr' e => h2 (by rw [← hz, e, hc]; exact hr')
    exact hF z r hz h1 (nq pl 90 i38.2.1 (by decide)) (nq bp 91 i39.2.1 (by decide)) (nq fp 92 i43.2.1 (by decide))
  have fI : ∀ z r, C z = r → r ∉ exK → r ∉ [90, 91, 92, 6, 4] → Kb z = I z := fun z r hz h1 h2 => (fr z r hz (fun q => h1 (exWK r q)) (fun q => h2 (by simp only [List.mem_cons, List.not_mem_nil, or_false] at q ⊢; omega))).trans (hK z r hz h1 (fun q => h2 (by rw [q]; decide)) (fun q => h2 (by rw [q]; decide)))
  have e10 : Kb y10 = I y10 := fI y10 72 g10.2.1 (by decide) (by decide)
  have e11 : Kb o11 = I o11 := fI o11 73 g11.2.1 (by decide) (by decide)
  have ee12 : Kb e12 = I e12 := fI e12 74 g12.2.1 (by decide) (by decide)
  have e13 : Kb w13 = I w13 := fI w13 75 g13.2.1 (by decide) (by decide)
  have e14 : Kb f14 = I f14 := fI f14 76 g14.2.1 (by decide) (by decide)
  have e15 : Kb u15 = I u15 := fI u15 77 g15.2.1 (by decide) (by decide)
  have e16 : Kb t16 = I t16 := fI t16 78 g16.2.1 (by decide) (by decide)
  -- the members
  have mq : ∀ k, k ≤ n → ∃ fa', R (cmL fi sh I J R tg s0 j0 k) 7 = some fa' ∧ MemEq I (cmL fi sh I J R tg s0 j0 k) (csL fi sh I J R tg s0 j0 k) fa' (6 * (posL fi sh I J R tg s0 j0 k).1 + (posL fi sh I J R tg s0 j0 k).2) n9 y10 o11 e12 w13 f14 u15 t16 := fun k hk => by
    obtain ⟨⟨p1, p2, p3⟩, p4, p5, p6, -⟩ := cd.1 k hk
    obtain ⟨b, ma', f, fs, fa', q1, q2, q3, q4, q5, q6, q7, q8, q9, q10, q11, q12, q13, q14, -⟩ := memF oR g4.1 g4.2.1 p1 p2
    have e1 : cmL fi sh I J R tg s0 j0 k = f := q8
    rw [q2] at p3
    refine ⟨fa', by rw [e1]; exact q14, ?_⟩
    rw [e1] at p6 ⊢
    exact (she _ p1 b q1).2 _ p2 p3 ma' f _ fa' q5 q7 p6 q14
  have hr := RlO (R := R) (p := 0) (i := 0) (j := 0) (k := 0) oI ⟨c0.1, c0.2.1⟩ ⟨c1.1, c1.2.1⟩ ⟨c2.1, c2.2.1⟩ ⟨c3.1, c3.2.1⟩
  have rgA : ∀ (a r N : Nat) (lo hi : Int), a ∈ L → C a = r → (∀ q, q < N → q < rN r) → (∀ q, rLo r q = lo ∧ rHi r q = hi) → ∀ q, q < N → lo ≤ (I a q).toInt ∧ (I a q).toInt ≤ hi := fun a r N lo hi h1 h2 h3 h4 q hq => by
    have g := oI a h1 q (by rw [h2]; exact h3 q hq)
    rw [h2, (h4 q).1, (h4 q).2] at g
    exact ⟨g.1, g.2.1⟩
  have ktc : Kb tc = K tc := fr tc 85 t1.2.1 (by decide) (by decide)
  have ktm : Kb tm = K tm := fr tm 86 t2.2.1 (by decide) (by decide)
  have ktr : Kb tr = K tr := fr tr 87 t3.2.1 (by decide) (by decide)
  have hMb : ∀ a, a < 7 → TbM Kb tc tm tr a (sr I rf) (sr I rt) (cs I rc) (pe I ru rth) := fun a ha => (hM a ha).of (fun b _ => by rw [ktc, ktm]; exact ⟨rfl, rfl⟩) (fun q _ _ => by rw [ktr])
  have emt : Kb mt_ = I rt := (fI mt_ 65 d2.2.1 (by decide) (by decide)).trans ekt
  have emp : Kb mp = I rm := (fI mp 68 d5.2.1 (by decide) (by decide)).trans ekp
  have emb : Kb mb = I mb := fI mb 67 d4.2.1 (by decide) (by decide)
  have hcar : CarM mo (cvA rt rb rm f9 I) (VpC w I) Kb R1 := carM ((hR1 3).trans d2.2.2) ((hR1 5).trans d4.2.2) ((hR1 6).trans d5.2.2) ((hR1 33).trans t2.2.2) ((hR1 34).trans t3.2.2) hr hT hMb (fun z hz => (hr.2 z hz).2.1) (by rw [emb]; exact rgA mb 67 32 (-1000) 1000 d4.1 d4.2.1 (fun q h => h) (fun q => ⟨rfl, rfl⟩)) (rgA rm 36 32 (-1000) 1000 c5.1 c5.2.1 (fun q h => h) (fun q => ⟨rfl, rfl⟩)) emt emp (by rw [emb]; exact ekb)
  have lt120 : ∀ k, k ≤ n → 6 * (posL fi sh I J R tg s0 j0 k).1 + (posL fi sh I J R tg s0 j0 k).2 < 120 := fun k hk => by have := (cd.1 k hk).1; omega
  have sq : ∀ k, k ≤ n → ∀ i, i < arL fi sh I J R tg s0 j0 k → I o11 (4 * (6 * (posL fi sh I J R tg s0 j0 k).1 + (posL fi sh I J R tg s0 j0 k).2) + i) = I (csL fi sh I J R tg s0 j0 k) i := fun k hk i hi => by
    obtain ⟨fa', -, q⟩ := mq k hk
    have := (cd.1 k hk).2.2.2.2.2.2.1
    exact (q.2.2.2.1 i (by omega)).symm
  have cx : ChM Kb R1 mo y10 o11 e12 hv cl' cp ma mt n (fun k => 6 * (posL fi sh I J R tg s0 j0 k).1 + (posL fi sh I J R tg s0 j0 k).2) (arL fi sh I J R tg s0 j0) (plL fi sh I J R tg s0 j0) (VpC w I) := by
    refine ⟨⟨(hR1 10).trans g10.2.2, (hR1 11).trans g11.2.2, (hR1 12).trans g12.2.2, (hR1 20).trans dv.2.2, (hR1 50).trans i50.2.2, (hR1 51).trans i51.2.2, (hR1 52).trans i52.2.2, (hR1 53).trans i53.2.2⟩, ⟨ne_role dv.2.1 km (by decide), ne_role i52.2.1 km (by decide), ne_role i53.2.1 km (by decide), ne_role i52.2.1 i53.2.1 (by decide), ne_role dv.2.1 i52.2.1 (by decide), ne_role dv.2.1 i53.2.1 (by decide)⟩, hn, fun k hk => ?_, fun k hk i hi => ?_⟩
    · obtain ⟨fa', -, q⟩ := mq k hk
      obtain ⟨-, -, -, -, -, -, p9, p10⟩ := cd.1 k hk
      refine ⟨hcl k hk, lt120 k hk, ?_, p10⟩
      rw [e10, ← q.2.2.1]
      exact p9
    · refine ⟨hcp k hk i hi, ?_⟩
      rw [e11]
      refine ((cd.2 k hk).1 i hi).imp id (fun ⟨y1, y2⟩ => ⟨y1, ?_⟩)
      rw [sq k (by omega) _ y1, sq (k + 1) (by omega) i hi]
      exact y2
  obtain ⟨fa', va', qn⟩ := mq n (Nat.le_refl _)
  obtain rfl : fa' = fac := Option.some.inj (va'.symm.trans vfac)
  have r75 := rgA w13 75 120 0 2 g13.1 g13.2.1 (fun q h => h) (fun q => ⟨rfl, rfl⟩)
  have r74 := rgA e12 74 120 0 6 g12.1 g12.2.1 (fun q h => h) (fun q => ⟨rfl, rfl⟩)
  have cy : ChN Kb R1 mo w13 f14 u15 t16 e12 y10 mf mh ma mt n (6 * (posL fi sh I J R tg s0 j0 n).1 + (posL fi sh I J R tg s0 j0 n).2) := by
    refine ⟨⟨(hR1 13).trans g13.2.2, (hR1 14).trans g14.2.2, (hR1 15).trans g15.2.2, (hR1 16).trans g16.2.2, (hR1 23).trans df.2.2, (hR1 24).trans dh.2.2⟩, ⟨ne_role df.2.1 km (by decide), ne_role i52.2.1 df.2.1 (by decide), ne_role i53.2.1 df.2.1 (by decide), ne_role dh.2.1 i52.2.1 (by decide), ne_role dh.2.1 i53.2.1 (by decide), ne_role dh.2.1 km (by decide)⟩, h49, lt120 n (Nat.le_refl _), ?_, ?_⟩
    · rw [e13]; exact r75 _ (lt120 n (Nat.le_refl _))
    · rw [ee12]; exact r74 _ (lt120 n (Nat.le_refl _))
  have hat' : (3 * x1 + Kb f14 (6 * (posL fi sh I J R tg s0 j0 n).1 + (posL fi sh I J R tg s0 j0 n).2)).toNatClampNeg = at_ := by
    rw [e14, ← qn.2.2.2.2.2.1, Int32.mul_comm]
    exact hat
  obtain ⟨I1, J1, o, b1, b2, b3, b4, b5, b6⟩ := callChainE (kv := kv) cx cy hcar (fun k hk => by
    rw [ee12]
    obtain ⟨_, -, q1⟩ := mq (k + 1) (by omega)
    obtain ⟨_, -, q0⟩ := mq k (by omega)
    rw [← q1.2.1, ← q0.2.1]
    exact (cd.2 k hk).2) hat' hkv
  rw [hhd, hfld] at b1
  rw [hfld] at b5
  refine ⟨I1, J1, o, ?_, b2, b3, b4, b5, b6⟩
  rw [b1]
  refine outA_congr (fun k hk i hi => ?_) (fun k hk => ?_) (fun k hk i hi => ((cd.2 k hk).1 i hi).imp id (fun q => q.1)) (fun a a' ha => ?_)
  · show Kb o11 _ = Ia _ i
    rw [e11, his k hk]
    exact sq k hk i hi
  · show Kb e12 _ = Ia _ 1
    obtain ⟨_, -, q⟩ := mq k hk
    rw [ee12, him k hk, q.2.1]
  · unfold wkM wkC
    obtain ⟨z1, z2, z3, z4, z5, z6, z7, z8⟩ := qn
    rw [e13, e14, e15, ee12, e16, him n (Nat.le_refl _), hfac, ← z5, ← z6, ← z2]
    refine wkA_congr (fun h0 => (z7 (by rw [ieq, cI0]; exact h0)).symm) (fun i hi => ?_) ha
    have := (cd.1 n (Nat.le_refl _)).2.2.2.2.2.2.2
    exact (z8 i (by omega)).symm
end CHX
