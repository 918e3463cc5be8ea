/-! the class looks for the best places -/
theorem i32N {x : Int32} {n : Nat} (h : x.toInt = n) (hn : n < 2147483648) : x = Int32.ofNat n := Int32.toInt_inj.mp (by rw [h, Int32.toInt_ofNat_of_lt (by omega)])
theorem bitT : ∀ tk : Fin 16, ∀ d : Fin 4, ((Int32.ofNat tk.1 >>> (Int32.ofNat d.1 &&& 31)) &&& 1) = Int32.ofNat (tk.1 / 2 ^ d.1 % 2) := by decide +kernel
theorem bitS : ∀ tk : Fin 16, ∀ d : Fin 4, tk.1 / 2 ^ d.1 % 2 = 0 → (Int32.ofNat tk.1 ||| ((1 : Int32) <<< (Int32.ofNat d.1 &&& 31))) = Int32.ofNat (tk.1 + 2 ^ d.1) := by decide +kernel
theorem bitC : ∀ af : Fin 5, ∀ tk : Fin 16, tk.1 < 2 ^ af.1 → ((4 : Int32) * (Int32.ofNat af.1 - F_J6_bitCount_0f7a4 (Int32.ofNat tk.1))).toInt = lft af.1 tk.1 := by decide +kernel
theorem bitU : ∀ af : Fin 5, ∀ tk : Fin 16, ∀ d : Fin 4, tk.1 < 2 ^ af.1 → d.1 < af.1 → tk.1 / 2 ^ d.1 % 2 = 0 → tk.1 + 2 ^ d.1 < 2 ^ af.1 := by decide +kernel
theorem pow16 : ∀ af : Fin 5, 2 ^ af.1 ≤ 16 := by decide +kernel
theorem gd_l {l m : List Nat} {j : Nat} (h : j < l.length) : (l ++ m).getD j 0 = l.getD j 0 := by rw [List.getD_eq_getElem?_getD, List.getD_eq_getElem?_getD, List.getElem?_append_left h]
theorem gd_r {l : List Nat} {d : Nat} : (l ++ [d]).getD l.length 0 = d := by rw [List.getD_eq_getElem?_getD, List.getElem?_concat_length]; rfl
def Nea (fi t p : Nat) (I0 I : hI) : Prop := ∀ z, z ≠ fi → z ≠ t → z ≠ p → I z = I0 z
def cdg (d : Nat) : Int32 := if d = 4 then 9 else Int32.ofNat d
def StR (fi t p ac i : Nat) (I0 Is I : hI) (o : Option (Int × List Nat)) (xb : Int32) : Prop :=
  Nea fi t p I0 I ∧ (∀ k, k ≠ 4 → I fi k = Is fi k) ∧ (∀ j, j < i → I t j = Is t j) ∧ ((o = none ∧ xb = 0 ∧ I fi 4 = Is fi 4 ∧ I p = Is p) ∨ ∃ q, o = some q ∧ xb = 1 ∧ (I fi 4).toInt = q.1 ∧ ∀ j, j < ac → I p j = cdg (q.2.getD j 0))
def AsR (fi t p ac i : Nat) (I0 I : hI) (J : hJ) (R : hR) (F : Int32 × hU) (o : Option (Int × List Nat)) : Prop := ∃ r I1, F = (r, (I1, J, R)) ∧ StR fi t p ac i I0 I I1 o r
def Fcx (R : hR) (fi ru w t p co ct f c fs cs : Nat) : Prop := R fi 0 = some ru ∧ R fi 2 = some co ∧ R fi 3 = some t ∧ R fi 6 = some p ∧ R co 0 = some ct ∧ R ru 8 = some w ∧ R f 3 = some fs ∧ R c 3 = some cs ∧ (t ≠ fi ∧ p ≠ fi ∧ t ≠ p) ∧ (w ≠ fi ∧ w ≠ t ∧ w ≠ p) ∧ (ct ≠ fi ∧ ct ≠ t ∧ ct ≠ p) ∧ (f ≠ fi ∧ f ≠ t ∧ f ≠ p) ∧ (c ≠ fi ∧ c ≠ t ∧ c ≠ p) ∧ (fs ≠ fi ∧ fs ≠ t ∧ fs ≠ p) ∧ (cs ≠ fi ∧ cs ≠ t ∧ cs ≠ p)
noncomputable def tcC (ru fs cs : Nat) (I0 : hI) (J : hJ) (R : hR) (d i : Nat) : Int := if d < 4 ∧ i < 4 then (F_X6_costBetween ru (I0 fs d) (I0 cs i) I0 J R).toInt else -1
noncomputable def hcC (ct cs : Nat) (I0 : hI) (i : Nat) : Bool := decide (I0 ct (I0 cs i).toNatClampNeg ≠ 0)
theorem cbw {ru w : Nat} {I I0 : hI} {J : hJ} {R : hR} {x y : Int32} (v8 : R ru 8 = some w) (h : I w = I0 w) : F_X6_costBetween ru x y I J R = F_X6_costBetween ru x y I0 J R := by
  simp only [F_X6_costBetween, F_X6_costBetween_26, nm, v8, Option.getD_some, h]
theorem StR.comb {fi t p ac i : Nat} {I0 Is I I1 : hI} {o o1 : Option (Int × List Nat)} {xb r : Int32} {b : Int} {g : Int → Option (Int × List Nat)} {v : Int32} (tf_ : t ≠ fi) (tp : p ≠ t) (h : StR fi t p ac i I0 Is I o xb) (h1 : StR fi t p ac (i + 1) I0 (u2 I t i v) I1 o1 r) (hg : g (bd b o) = o1) :
    StR fi t p ac i I0 Is I1 (sq o b g) (if r = 0 then xb else 1) ∧ (r = 0 ∨ r = 1) := by
  obtain ⟨-, a2, a3, a4⟩ := h
  obtain ⟨b1, b2, b3, b4⟩ := h1
  have e3 : ∀ j, j < i → I1 t j = Is t j := fun j hj => by rw [b3 j (by omega), u2_nk (by omega), a3 j hj]
  have e2 : ∀ k, k ≠ 4 → I1 fi k = Is fi k := fun k hk => by rw [b2 k hk, u2_ne tf_.symm, a2 k hk]
  rcases b4 with ⟨c1, c2, c3, c4⟩ | ⟨q, c1, c2, c3, c4⟩
  · rw [sq_none (hg.trans c1), if_pos c2]
    refine ⟨⟨b1, e2, e3, ?_⟩, Or.inl c2⟩
    rw [u2_ne tf_.symm] at c3
    rw [u2_ne tp] at c4
    rcases a4 with ⟨d1, d2, d3, d4⟩ | ⟨q, d1, d2, d3, d4⟩
    · exact Or.inl ⟨d1, d2, c3.trans d3, c4.trans d4⟩
    · exact Or.inr ⟨q, d1, d2, by rw [c3]; exact d3, fun j hj => by rw [c4]; exact d4 j hj⟩
  · rw [sq_some (hg.trans c1), if_neg (by rw [c2]; decide)]
    exact ⟨⟨b1, e2, e3, Or.inr ⟨q, rfl, rfl, c3, c4⟩⟩, Or.inr c2⟩
theorem StR.bd {fi t p ac i : Nat} {I0 Is I : hI} {o : Option (Int × List Nat)} {xb : Int32} {b : Int} (h : StR fi t p ac i I0 Is I o xb) (hb : (Is fi 4).toInt = b) : (I fi 4).toInt = bd b o := by
  obtain ⟨-, -, -, h⟩ := h
  rcases h with ⟨h1, -, h2, -⟩ | ⟨q, h1, -, h2, -⟩
  · rw [h1, h2]; exact hb
  · rw [h1]; exact h2
theorem StR.nu {fi t p ac i : Nat} {I0 I : hI} (h : Nea fi t p I0 I) : StR fi t p ac i I0 I I none 0 := ⟨h, fun _ _ => rfl, fun _ _ => rfl, Or.inl ⟨rfl, rfl, rfl, rfl⟩⟩
theorem Nea.t {fi t p : Nat} {I0 I : hI} {k : Nat} {v : Int32} (h : Nea fi t p I0 I) : Nea fi t p I0 (u2 I t k v) := fun z h1 h2 h3 => by rw [u2_ne h2]; exact h z h1 h2 h3
/-- the end of a row: all of f's are told what they take -/
theorem settleE {fi t p ac : Nat} {I0 I : hI} {J : hJ} {R : hR} {x : Int32} {z b : Int} {pre : List Nat} (v3 : R fi 3 = some t) (v6 : R fi 6 = some p) (tf_ : t ≠ fi) (pf : p ≠ fi) (tp : t ≠ p) (hn : Nea fi t p I0 I) (hx : x.toInt = z) (hb : (I fi 4).toInt = b) (hac : ac ≤ 4) (ht : ∀ j, j < ac → I t j = cdg (pre.getD j 0)) :
    AsR fi t p ac ac I0 I J R (F_X3_settle fi x I J R) (if z < b then some (z, pre) else none) := by
  simp only [F_X3_settle, nm, v3, v6, Option.getD_some]
  by_cases h : z < b
  · rw [if_pos h, if_pos (show x < I fi 4 by rw [ilt, hx, hb]; exact h)]
    refine ⟨_, _, rfl, fun z h1 h2 h3 => ?_, fun k hk => ?_, fun j hj => ?_, Or.inr ⟨_, rfl, rfl, ?_, fun j hj => ?_⟩⟩
    · rw [cp2_ne h3, u2_ne h1]; exact hn z h1 h2 h3
    · rw [cp2_ne pf.symm, u2_nk hk]
    · rw [cp2_ne tp, u2_ne tf_]
    · rw [cp2_ne pf.symm, u2_at]; exact hx
    · rw [cp2_eq, u2_ne tf_]
      have e : va_cpy (I t) (u2 I fi 4 x p) (Int32.toNatClampNeg 0) (Int32.toNatClampNeg 0) (Int32.toNatClampNeg 4) j = I t j := by
        simp only [va_cpy]
        rw [show Int32.toNatClampNeg 0 = 0 by decide, show Int32.toNatClampNeg 4 = 4 by decide]
        simp [show j < 4 by omega]
      rw [e]; exact ht j hj
  · rw [if_neg h, if_neg (show ¬ x < I fi 4 by rw [ilt, hx, hb]; exact h)]
    exact ⟨_, _, rfl, StR.nu hn⟩
set_option maxHeartbeats 4000000 in
theorem asg_4 {fi ru w t p co ct f c fs cs af ac : Nat} {I0 : hI} {J : hJ} {R : hR} (cx : Fcx R fi ru w t p co ct f c fs cs) (haf : (I0 f 2).toInt = af) (haf4 : af ≤ 4) (hac : (I0 c 2).toInt = ac) (hac4 : ac ≤ 4) (htc : ∀ d i, d < 4 → i < 4 → -1 ≤ tcC ru fs cs I0 J R d i ∧ tcC ru fs cs I0 J R d i ≤ 300) :
    ∀ (I : hI) (xi xtk xsf : Int32) (tk : Nat) (sf b : Int) (pre : List Nat), Nea fi t p I0 I → xi.toInt = 4 → xtk.toInt = tk → tk < 2 ^ af → xsf.toInt = sf → 0 ≤ sf → sf ≤ 302 + 301 * 4 → (I fi 4).toInt = b → pre.length = 4 → (∀ j, j < 4 → I t j = cdg (pre.getD j 0)) → 4 ≤ ac →
      AsR fi t p ac 4 I0 I J R (F_X3_assign_4 fi f c xi xtk xsf I J R) (tf af (tcC ru fs cs I0 J R) (hcC ct cs I0) (ac - 4) 4 tk sf pre b) := by
  have cx0 := cx
  obtain ⟨v0, v2, v3, v6, vc, v8, vf, vs, ⟨tf_, pf, tp⟩, ⟨w1, w2, w3⟩, ⟨ct1, ct2, ct3⟩, ⟨f1, f2, f3⟩, ⟨c1, c2, c3⟩, ⟨fs1, fs2, fs3⟩, ⟨cs1, cs2, cs3⟩⟩ := cx
  intro I xi xtk xsf tk sf b pre hn hxi hxt htk hsf hs0 hs1 hb hpre ht hia
  simp only [F_X3_assign_4, nm, nmU]
  by_cases hlt : sf < b
  · rw [if_pos (show xsf < I fi 4 by rw [ilt, hsf, hb]; exact hlt)]
    rw [hn c c1 c2 c3]
    have hts : (xsf + 4 * (I f 2 - F_J6_bitCount_0f7a4 xtk)).toInt = sf + lft af tk := by
      have a16 := pow16 ⟨af, by omega⟩
      have e := bitC ⟨af, by omega⟩ ⟨tk, by have : 2 ^ af ≤ 16 := a16; omega⟩ htk
      have l := lft_nn af tk
      rw [hn f f1 f2 f3, i32N haf (by omega), i32N hxt (by have : 2 ^ af ≤ 16 := a16; omega)]
      exact iadd hsf e (by omega) (by omega)
    rw [if_neg (show ¬ xi < I0 c 2 by rw [ilt, hxi, hac]; omega)]
    have e4 : ac = 4 := by omega
    have se := settleE (J := J) v3 v6 tf_ pf tp hn hts hb hac4 (pre := pre) (ac := ac) (fun j hj => ht j (by omega))
    subst e4
    obtain ⟨r, I1, q1, q2⟩ := se
    rw [q1]
    exact ⟨r, I1, rfl, q2⟩
  · rw [if_neg (show ¬ xsf < I fi 4 by rw [ilt, hsf, hb]; exact hlt), tf_prune _ _ _ _ _ _ (by omega)]
    exact ⟨_, _, rfl, StR.nu hn⟩
set_option maxHeartbeats 4000000 in
theorem asg_3 {fi ru w t p co ct f c fs cs af ac : Nat} {I0 : hI} {J : hJ} {R : hR} (cx : Fcx R fi ru w t p co ct f c fs cs) (haf : (I0 f 2).toInt = af) (haf4 : af ≤ 4) (hac : (I0 c 2).toInt = ac) (hac4 : ac ≤ 4) (htc : ∀ d i, d < 4 → i < 4 → -1 ≤ tcC ru fs cs I0 J R d i ∧ tcC ru fs cs I0 J R d i ≤ 300) :
    ∀ (I : hI) (xi xtk xsf : Int32) (tk : Nat) (sf b : Int) (pre : List Nat), Nea fi t p I0 I → xi.toInt = 3 → xtk.toInt = tk → tk < 2 ^ af → xsf.toInt = sf → 0 ≤ sf → sf ≤ 302 + 301 * 3 → (I fi 4).toInt = b → pre.length = 3 → (∀ j, j < 3 → I t j = cdg (pre.getD j 0)) → 3 ≤ ac →
      AsR fi t p ac 3 I0 I J R (F_X3_assign_3 fi f c xi xtk xsf I J R) (tf af (tcC ru fs cs I0 J R) (hcC ct cs I0) (ac - 3) 3 tk sf pre b) := by
  have cx0 := cx
  obtain ⟨v0, v2, v3, v6, vc, v8, vf, vs, ⟨tf_, pf, tp⟩, ⟨w1, w2, w3⟩, ⟨ct1, ct2, ct3⟩, ⟨f1, f2, f3⟩, ⟨c1, c2, c3⟩, ⟨fs1, fs2, fs3⟩, ⟨cs1, cs2, cs3⟩⟩ := cx
  intro I xi xtk xsf tk sf b pre hn hxi hxt htk hsf hs0 hs1 hb hpre ht hia
  simp only [F_X3_assign_3, nm, nmU]
  by_cases hlt : sf < b
  · rw [if_pos (show xsf < I fi 4 by rw [ilt, hsf, hb]; exact hlt)]
    rw [hn c c1 c2 c3]
    have hts : (xsf + 4 * (I f 2 - F_J6_bitCount_0f7a4 xtk)).toInt = sf + lft af tk := by
      have a16 := pow16 ⟨af, by omega⟩
      have e := bitC ⟨af, by omega⟩ ⟨tk, by have : 2 ^ af ≤ 16 := a16; omega⟩ htk
      have l := lft_nn af tk
      rw [hn f f1 f2 f3, i32N haf (by omega), i32N hxt (by have : 2 ^ af ≤ 16 := a16; omega)]
      exact iadd hsf e (by omega) (by omega)
    by_cases hci : 3 < ac
    · rw [if_pos (show xi < I0 c 2 by rw [ilt, hxi, hac]; omega)]
      obtain ⟨r, hr⟩ : ∃ r, ac - 3 = r + 1 := ⟨ac - 4, by omega⟩
      have hr' : ac - 4 = r := by omega
      rw [hr, tf_s]
      obtain ⟨ch, hch⟩ : ∃ ch, ch = chd af (tcC ru fs cs I0 J R) (hcC ct cs I0) r 3 tk sf pre := ⟨_, rfl⟩
      rw [← hch]
      -- what is tried at place i under d
      have go : ∀ (K : hI) (d : Nat) (v xa : Int32) (x : Int) (o : Option (Int × List Nat)) (xb xtk1 xsf1 : Int32), StR fi t p ac 3 I0 I K o xb → inc af (tcC ru fs cs I0 J R) (hcC ct cs I0) 3 d tk = some x → v = cdg d → xa.toInt = 4 → xtk1.toInt = upt tk d → upt tk d < 2 ^ af → xsf1.toInt = sf + x → x ≤ 301 →
          ∃ r1 K1, F_X3_assign_4 fi f c xa xtk1 xsf1 (u2 K t 3 v) J R = (r1, (K1, J, R)) ∧ StR fi t p ac 3 I0 I K1 (sq o b (ch d)) (if r1 = 0 then xb else 1) ∧ (r1 = 0 ∨ r1 = 1) := fun K d v xa x o xb xtk1 xsf1 hK hinc hv hxa ht1 ht2 hs2 hx3 => by
        have hK0 := hK
        obtain ⟨k1, k2, k3, k4⟩ := hK
        obtain ⟨r1, K1, q1, q2⟩ := asg_4 cx0 haf haf4 hac hac4 htc (u2 K t 3 v) xa xtk1 xsf1 (upt tk d) (sf + x) (bd b o) (pre ++ [d]) k1.t hxa ht1 ht2 hs2 (by have := inc_nn hinc; omega) (by omega) (by rw [u2_ne tf_.symm]; exact hK0.bd hb) (by rw [List.length_append, hpre]; rfl) (fun j hj => by
          by_cases hji : j = 3
          · have gr := gd_r (l := pre) (d := d)
            rw [hpre] at gr
            rw [hji, u2_at, hv, gr]
          · rw [u2_nk hji, k3 j (by omega), ht j (by omega), gd_l (by omega)]) (by omega)
        rw [hr'] at q2
        obtain ⟨s1, s2⟩ := StR.comb (g := ch d) (b := b) tf_ tp.symm hK0 q2 (by rw [hch]; unfold chd; rw [hinc])
        exact ⟨r1, K1, q1, s1, s2⟩
      have i4 : xi.toNatClampNeg = 3 := clamp_toInt hxi
      have xi1 : (xi + 1).toInt = 4 := by rw [add1 (b := 4) (by omega) (by omega), hxi]; rfl
      -- the places of f, and the constant at last
      have lp : ∀ (g d : Nat) (K : hI) (xb xd : Int32), xd.toInt = d → d ≤ af → af < g + d → StR fi t p ac 3 I0 I K (tl5 ch b d) xb → AsR fi t p ac 3 I0 I J R (F_X3_assign_3_45 fi f c xi xtk xsf (I fi 4) g K J R xb xd) (tl5 ch b 5) := by
        intro g
        induction g with
        | zero => intro d K xb xd _ h1 h2; omega
        | succ g ih =>
          intro d K xb xd hd hda hg hK
          have kn := hK.1
          rw [F_X3_assign_3_45_s]
          simp only [B_X3_assign_3_45, F_X3_assign_3_145, F_X3_assign_3_143, F_X3_assign_3_138, F_X3_assign_3_83, nm, nmU, v0, v2, v3, vc, vs, vf, Option.getD_some, i4]
          rw [kn f f1 f2 f3, kn cs cs1 cs2 cs3, kn ct ct1 ct2 ct3]
          by_cases hda2 : d = af
          · rw [if_pos (show I0 f 2 ≤ xd by rw [ile, haf, hd]; omega)]
            have en : tl5 ch b 4 = tl5 ch b af := by
              have e : ∀ m, af + m ≤ 4 → tl5 ch b (af + m) = tl5 ch b af := by
                intro m
                induction m with
                | zero => intro _; rfl
                | succ m ihm =>
                  intro hm
                  show sq (tl5 ch b (af + m)) b (ch (af + m)) = _
                  rw [sq_none, ihm (by omega)]
                  rw [hch]
                  unfold chd inc
                  rw [if_neg (by omega), if_neg (by omega)]
              have := e (4 - af) (by omega)
              rw [show af + (4 - af) = 4 by omega] at this
              exact this
            have e5 : tl5 ch b 5 = sq (tl5 ch b d) b (ch 4) := by
              rw [hda2, ← en]; rfl
            by_cases hcn : I0 ct (I0 cs 3).toNatClampNeg = 0
            · rw [if_pos hcn, e5, sq_none]
              · exact ⟨_, _, rfl, hK⟩
              · rw [hch]
                unfold chd inc
                rw [if_pos rfl, if_neg (by unfold hcC; rw [decide_eq_true_iff]; exact fun q => q hcn)]
            · rw [if_neg hcn]
              obtain ⟨r1, K1, q1, q2, q3⟩ := go K 4 9 (xi + 1) 7 (tl5 ch b d) xb xtk (xsf + 7) hK (by unfold inc; rw [if_pos rfl, if_pos (by unfold hcC; rw [decide_eq_true_iff]; exact hcn)]) rfl xi1 hxt htk (by rw [iadd hsf (show Int32.toInt 7 = 7 by decide) (by omega) (by omega)]) (by decide)
              rw [q1, e5]
              dsimp only
              have hxb : xb = 0 ∨ xb = 1 := by
                rcases hK.2.2.2 with ⟨-, z, -⟩ | ⟨q, -, z, -⟩
                · exact Or.inl z
                · exact Or.inr z
              rcases q3 with z | z
              · rw [if_pos z] at q2 ⊢
                rcases hxb with y | y
                · rw [if_pos y]
                  rw [y] at q2
                  exact ⟨_, _, rfl, q2⟩
                · rw [if_neg (by rw [y]; decide)]
                  rw [y] at q2
                  exact ⟨_, _, rfl, q2⟩
              · rw [if_neg (by rw [z]; decide)] at q2 ⊢
                exact ⟨_, _, rfl, q2⟩
          · rw [if_neg (show ¬ I0 f 2 ≤ xd by rw [ile, haf, hd]; omega)]
            have a16 : 2 ^ af ≤ 16 := pow16 ⟨af, by omega⟩
            have d1 : (xd + 1).toInt = ((d + 1 : Nat) : Int) := by rw [add1 (b := 5) (by omega) (by omega), hd]; omega
            have bt := bitT ⟨tk, by omega⟩ ⟨d, by omega⟩
            rw [← i32N hxt (by omega), ← i32N hd (by omega)] at bt
            have bt : (xtk >>> (xd &&& 31)) &&& 1 = Int32.ofNat (tk / 2 ^ d % 2) := bt
            rw [bt]
            have eqd : tl5 ch b (d + 1) = sq (tl5 ch b d) b (ch d) := rfl
            by_cases hbit : tk / 2 ^ d % 2 = 0
            · rw [hbit, if_pos (show Int32.ofNat 0 = 0 from rfl)]
              simp only [F_X3_take_3, F_X3_take_3_49, nm, nmU, v0, v3, vf, vs, Option.getD_some, i4, clamp_toInt hd]
              rw [kn fs fs1 fs2 fs3, kn cs cs1 cs2 cs3, cbw v8 (kn w w1 w2 w3)]
              have et : tcC ru fs cs I0 J R d 3 = (F_X6_costBetween ru (I0 fs d) (I0 cs 3) I0 J R).toInt := if_pos ⟨by omega, by decide⟩
              have hb2 := htc d 3 (by omega) (by decide)
              by_cases hn1 : F_X6_costBetween ru (I0 fs d) (I0 cs 3) I0 J R = -1
              · rw [if_pos hn1]
                dsimp only
                rw [if_pos (show (0 : Int32) = 0 from rfl)]
                refine ih (d + 1) K xb (xd + 1) d1 (by omega) (by omega) ?_
                rw [eqd, sq_none]
                · exact hK
                · rw [hch]
                  unfold chd inc
                  rw [if_neg (by omega), if_neg (by rw [et, hn1, cIm1]; omega)]
              · rw [if_neg hn1]
                have tn : 0 ≤ tcC ru fs cs I0 J R d 3 := by
                  have : tcC ru fs cs I0 J R d 3 ≠ -1 := fun q => hn1 (by rw [ieq, cIm1, ← et, q])
                  omega
                have bs := bitS ⟨tk, by omega⟩ ⟨d, by omega⟩ hbit
                rw [← i32N hxt (by omega), ← i32N hd (by omega)] at bs
                have bs : (xtk ||| ((1 : Int32) <<< (xd &&& 31))) = Int32.ofNat (tk + 2 ^ d) := bs
                have bu : tk + 2 ^ d < 2 ^ af := bitU ⟨af, by omega⟩ ⟨tk, by omega⟩ ⟨d, by omega⟩ htk (by show d < af; omega) hbit
                have up : upt tk d = tk + 2 ^ d := if_neg (by omega)
                have hv : xd = cdg d := by unfold cdg; rw [if_neg (by omega)]; exact i32N hd (by omega)
                have ex : ∀ y : Int32, y.toInt = (if d = 3 then 0 else 1 : Int) → ∃ r1 K1, F_X3_assign_4 fi f c (xi + 1) (xtk ||| ((1 : Int32) <<< (xd &&& 31))) (xsf + F_X6_costBetween ru (I0 fs d) (I0 cs 3) I0 J R + y) (u2 K t 3 xd) J R = (r1, (K1, J, R)) ∧ StR fi t p ac 3 I0 I K1 (sq (tl5 ch b d) b (ch d)) (if r1 = 0 then xb else 1) ∧ (r1 = 0 ∨ r1 = 1) := fun y hy => by
                  refine go K d xd (xi + 1) (tcC ru fs cs I0 J R d 3 + if d = 3 then 0 else 1) (tl5 ch b d) xb _ _ hK ?_ hv xi1 ?_ (by rw [up]; exact bu) ?_ ?_
                  · unfold inc
                    rw [if_neg (by omega), if_pos ⟨by omega, hbit, tn⟩]
                  · rw [bs, up, Int32.toInt_ofNat_of_lt (by omega)]
                  · have hy2 : 0 ≤ (if d = 3 then 0 else 1 : Int) ∧ (if d = 3 then 0 else 1 : Int) ≤ 1 := by split <;> omega
                    rw [iadd (iadd hsf et.symm (by omega) (by omega)) hy (by omega) (by omega)]
                    omega
                  · split <;> omega
                have fin : ∀ y : Int32, y.toInt = (if d = 3 then 0 else 1 : Int) → AsR fi t p ac 3 I0 I J R (if (F_X3_assign_4 fi f c (xi + 1) (xtk ||| ((1 : Int32) <<< (xd &&& 31))) (xsf + F_X6_costBetween ru (I0 fs d) (I0 cs 3) I0 J R + y) (u2 K t 3 xd) J R).1 = 0 then F_X3_assign_3_45 fi f c xi xtk xsf (I fi 4) g (F_X3_assign_4 fi f c (xi + 1) (xtk ||| ((1 : Int32) <<< (xd &&& 31))) (xsf + F_X6_costBetween ru (I0 fs d) (I0 cs 3) I0 J R + y) (u2 K t 3 xd) J R).2.1 J R xb (xd + 1) else F_X3_assign_3_45 fi f c xi xtk xsf (I fi 4) g (F_X3_assign_4 fi f c (xi + 1) (xtk ||| ((1 : Int32) <<< (xd &&& 31))) (xsf + F_X6_costBetween ru (I0 fs d) (I0 cs 3) I0 J R + y) (u2 K t 3 xd) J R).2.1 J R 1 (xd + 1)) (tl5 ch b 5) := fun y hy => by
                  obtain ⟨r1, K1, q1, q2, q3⟩ := ex y hy
                  rw [q1]
                  dsimp only
                  rcases q3 with z | z
                  · rw [if_pos z] at q2 ⊢
                    exact ih (d + 1) K1 xb (xd + 1) d1 (by omega) (by omega) q2
                  · rw [if_neg (by rw [z]; decide)] at q2 ⊢
                    exact ih (d + 1) K1 1 (xd + 1) d1 (by omega) (by omega) q2
                by_cases hdi : d = 3
                · rw [if_pos (show xd = xi by rw [ieq, hd, hxi, hdi]; rfl)]
                  exact fin 0 (by rw [if_pos hdi]; decide)
                · rw [if_neg (show ¬ xd = xi by rw [ieq, hd, hxi]; omega)]
                  exact fin 1 (by rw [if_neg hdi]; decide)
            · have h1 : tk / 2 ^ d % 2 = 1 := by omega
              rw [h1, if_neg (show ¬ Int32.ofNat 1 = 0 by decide)]
              refine ih (d + 1) K xb (xd + 1) d1 (by omega) (by omega) ?_
              rw [eqd, sq_none]
              · exact hK
              · rw [hch]
                unfold chd inc
                rw [if_neg (by omega), if_neg (fun q => hbit q.2.1)]
      exact lp 5 0 I 0 0 (by decide) (by omega) (by omega) (StR.nu hn)
    · rw [if_neg (show ¬ xi < I0 c 2 by rw [ilt, hxi, hac]; omega)]
      have e4 : ac = 3 := by omega
      have se := settleE (J := J) v3 v6 tf_ pf tp hn hts hb hac4 (pre := pre) (ac := ac) (fun j hj => ht j (by omega))
      obtain ⟨r, I1, q1, q2⟩ := se
      rw [q1]
      rw [e4, Nat.sub_self]
      rw [e4] at q2
      exact ⟨r, I1, rfl, q2⟩
  · rw [if_neg (show ¬ xsf < I fi 4 by rw [ilt, hsf, hb]; exact hlt), tf_prune _ _ _ _ _ _ (by omega)]
    exact ⟨_, _, rfl, StR.nu hn⟩
