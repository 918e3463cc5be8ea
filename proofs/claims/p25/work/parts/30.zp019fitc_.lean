set_option maxHeartbeats 4000000 in
theorem asg_2 {fi ru w t p co ct f c fs cs af ac : Nat} {I0 : hI} {J : hJ} {R : hR} (cx : Fcx R fi ru w t p co ct f c fs cs) (haf : (I0 f 2).toInt = af) (haf4 : af ≤ 4) (hac : (I0 c 2).toInt = ac) (hac4 : ac ≤ 4) (htc : ∀ d i, d < 4 → i < 4 → -1 ≤ tcC ru fs cs I0 J R d i ∧ tcC ru fs cs I0 J R d i ≤ 300) :
    ∀ (I : hI) (xi xtk xsf : Int32) (tk : Nat) (sf b : Int) (pre : List Nat), Nea fi t p I0 I → xi.toInt = 2 → xtk.toInt = tk → tk < 2 ^ af → xsf.toInt = sf → 0 ≤ sf → sf ≤ 302 + 301 * 2 → (I fi 4).toInt = b → pre.length = 2 → (∀ j, j < 2 → I t j = cdg (pre.getD j 0)) → 2 ≤ ac →
      AsR fi t p ac 2 I0 I J R (F_X3_assign_2 fi f c xi xtk xsf I J R) (tf af (tcC ru fs cs I0 J R) (hcC ct cs I0) (ac - 2) 2 tk sf pre b) := by
  have cx0 := cx
  obtain ⟨v0, v2, v3, v6, vc, v8, vf, vs, ⟨tf_, pf, tp⟩, ⟨w1, w2, w3⟩, ⟨ct1, ct2, ct3⟩, ⟨f1, f2, f3⟩, ⟨c1, c2, c3⟩, ⟨fs1, fs2, fs3⟩, ⟨cs1, cs2, cs3⟩⟩ := cx
  intro I xi xtk xsf tk sf b pre hn hxi hxt htk hsf hs0 hs1 hb hpre ht hia
  simp only [F_X3_assign_2, nm, nmU]
  by_cases hlt : sf < b
  · rw [if_pos (show xsf < I fi 4 by rw [ilt, hsf, hb]; exact hlt)]
    rw [hn c c1 c2 c3]
    have hts : (xsf + 4 * (I f 2 - F_J6_bitCount_0f7a4 xtk)).toInt = sf + lft af tk := by
      have a16 := pow16 ⟨af, by omega⟩
      have e := bitC ⟨af, by omega⟩ ⟨tk, by have : 2 ^ af ≤ 16 := a16; omega⟩ htk
      have l := lft_nn af tk
      rw [hn f f1 f2 f3, i32N haf (by omega), i32N hxt (by have : 2 ^ af ≤ 16 := a16; omega)]
      exact iadd hsf e (by omega) (by omega)
    by_cases hci : 2 < ac
    · rw [if_pos (show xi < I0 c 2 by rw [ilt, hxi, hac]; omega)]
      obtain ⟨r, hr⟩ : ∃ r, ac - 2 = r + 1 := ⟨ac - 3, by omega⟩
      have hr' : ac - 3 = r := by omega
      rw [hr, tf_s]
      obtain ⟨ch, hch⟩ : ∃ ch, ch = chd af (tcC ru fs cs I0 J R) (hcC ct cs I0) r 2 tk sf pre := ⟨_, rfl⟩
      rw [← hch]
      -- what is tried at place i under d
      have go : ∀ (K : hI) (d : Nat) (v xa : Int32) (x : Int) (o : Option (Int × List Nat)) (xb xtk1 xsf1 : Int32), StR fi t p ac 2 I0 I K o xb → inc af (tcC ru fs cs I0 J R) (hcC ct cs I0) 2 d tk = some x → v = cdg d → xa.toInt = 3 → xtk1.toInt = upt tk d → upt tk d < 2 ^ af → xsf1.toInt = sf + x → x ≤ 301 →
          ∃ r1 K1, F_X3_assign_3 fi f c xa xtk1 xsf1 (u2 K t 2 v) J R = (r1, (K1, J, R)) ∧ StR fi t p ac 2 I0 I K1 (sq o b (ch d)) (if r1 = 0 then xb else 1) ∧ (r1 = 0 ∨ r1 = 1) := fun K d v xa x o xb xtk1 xsf1 hK hinc hv hxa ht1 ht2 hs2 hx3 => by
        have hK0 := hK
        obtain ⟨k1, k2, k3, k4⟩ := hK
        obtain ⟨r1, K1, q1, q2⟩ := asg_3 cx0 haf haf4 hac hac4 htc (u2 K t 2 v) xa xtk1 xsf1 (upt tk d) (sf + x) (bd b o) (pre ++ [d]) k1.t hxa ht1 ht2 hs2 (by have := inc_nn hinc; omega) (by omega) (by rw [u2_ne tf_.symm]; exact hK0.bd hb) (by rw [List.length_append, hpre]; rfl) (fun j hj => by
          by_cases hji : j = 2
          · have gr := gd_r (l := pre) (d := d)
            rw [hpre] at gr
            rw [hji, u2_at, hv, gr]
          · rw [u2_nk hji, k3 j (by omega), ht j (by omega), gd_l (by omega)]) (by omega)
        rw [hr'] at q2
        obtain ⟨s1, s2⟩ := StR.comb (g := ch d) (b := b) tf_ tp.symm hK0 q2 (by rw [hch]; unfold chd; rw [hinc])
        exact ⟨r1, K1, q1, s1, s2⟩
      have i4 : xi.toNatClampNeg = 2 := clamp_toInt hxi
      have xi1 : (xi + 1).toInt = 3 := by rw [add1 (b := 4) (by omega) (by omega), hxi]; rfl
      -- the places of f, and the constant at last
      have lp : ∀ (g d : Nat) (K : hI) (xb xd : Int32), xd.toInt = d → d ≤ af → af < g + d → StR fi t p ac 2 I0 I K (tl5 ch b d) xb → AsR fi t p ac 2 I0 I J R (F_X3_assign_2_45 fi f c xi xtk xsf (I fi 4) g K J R xb xd) (tl5 ch b 5) := by
        intro g
        induction g with
        | zero => intro d K xb xd _ h1 h2; omega
        | succ g ih =>
          intro d K xb xd hd hda hg hK
          have kn := hK.1
          rw [F_X3_assign_2_45_s]
          simp only [B_X3_assign_2_45, F_X3_assign_2_145, F_X3_assign_2_143, F_X3_assign_2_138, F_X3_assign_2_83, nm, nmU, v0, v2, v3, vc, vs, vf, Option.getD_some, i4]
          rw [kn f f1 f2 f3, kn cs cs1 cs2 cs3, kn ct ct1 ct2 ct3]
          by_cases hda2 : d = af
          · rw [if_pos (show I0 f 2 ≤ xd by rw [ile, haf, hd]; omega)]
            have en : tl5 ch b 4 = tl5 ch b af := by
              have e : ∀ m, af + m ≤ 4 → tl5 ch b (af + m) = tl5 ch b af := by
                intro m
                induction m with
                | zero => intro _; rfl
                | succ m ihm =>
                  intro hm
                  show sq (tl5 ch b (af + m)) b (ch (af + m)) = _
                  rw [sq_none, ihm (by omega)]
                  rw [hch]
                  unfold chd inc
                  rw [if_neg (by omega), if_neg (by omega)]
              have := e (4 - af) (by omega)
              rw [show af + (4 - af) = 4 by omega] at this
              exact this
            have e5 : tl5 ch b 5 = sq (tl5 ch b d) b (ch 4) := by
              rw [hda2, ← en]; rfl
            by_cases hcn : I0 ct (I0 cs 2).toNatClampNeg = 0
            · rw [if_pos hcn, e5, sq_none]
              · exact ⟨_, _, rfl, hK⟩
              · rw [hch]
                unfold chd inc
                rw [if_pos rfl, if_neg (by unfold hcC; rw [decide_eq_true_iff]; exact fun q => q hcn)]
            · rw [if_neg hcn]
              obtain ⟨r1, K1, q1, q2, q3⟩ := go K 4 9 (xi + 1) 7 (tl5 ch b d) xb xtk (xsf + 7) hK (by unfold inc; rw [if_pos rfl, if_pos (by unfold hcC; rw [decide_eq_true_iff]; exact hcn)]) rfl xi1 hxt htk (by rw [iadd hsf (show Int32.toInt 7 = 7 by decide) (by omega) (by omega)]) (by decide)
              rw [q1, e5]
              dsimp only
              have hxb : xb = 0 ∨ xb = 1 := by
                rcases hK.2.2.2 with ⟨-, z, -⟩ | ⟨q, -, z, -⟩
                · exact Or.inl z
                · exact Or.inr z
              rcases q3 with z | z
              · rw [if_pos z] at q2 ⊢
                rcases hxb with y | y
                · rw [if_pos y]
                  rw [y] at q2
                  exact ⟨_, _, rfl, q2⟩
                · rw [if_neg (by rw [y]; decide)]
                  rw [y] at q2
                  exact ⟨_, _, rfl, q2⟩
              · rw [if_neg (by rw [z]; decide)] at q2 ⊢
                exact ⟨_, _, rfl, q2⟩
          · rw [if_neg (show ¬ I0 f 2 ≤ xd by rw [ile, haf, hd]; omega)]
            have a16 : 2 ^ af ≤ 16 := pow16 ⟨af, by omega⟩
            have d1 : (xd + 1).toInt = ((d + 1 : Nat) : Int) := by rw [add1 (b := 5) (by omega) (by omega), hd]; omega
            have bt := bitT ⟨tk, by omega⟩ ⟨d, by omega⟩
            rw [← i32N hxt (by omega), ← i32N hd (by omega)] at bt
            have bt : (xtk >>> (xd &&& 31)) &&& 1 = Int32.ofNat (tk / 2 ^ d % 2) := bt
            rw [bt]
            have eqd : tl5 ch b (d + 1) = sq (tl5 ch b d) b (ch d) := rfl
            by_cases hbit : tk / 2 ^ d % 2 = 0
            · rw [hbit, if_pos (show Int32.ofNat 0 = 0 from rfl)]
              simp only [F_X3_take_2, F_X3_take_2_49, nm, nmU, v0, v3, vf, vs, Option.getD_some, i4, clamp_toInt hd]
              rw [kn fs fs1 fs2 fs3, kn cs cs1 cs2 cs3, cbw v8 (kn w w1 w2 w3)]
              have et : tcC ru fs cs I0 J R d 2 = (F_X6_costBetween ru (I0 fs d) (I0 cs 2) I0 J R).toInt := if_pos ⟨by omega, by decide⟩
              have hb2 := htc d 2 (by omega) (by decide)
              by_cases hn1 : F_X6_costBetween ru (I0 fs d) (I0 cs 2) I0 J R = -1
              · rw [if_pos hn1]
                dsimp only
                rw [if_pos (show (0 : Int32) = 0 from rfl)]
                refine ih (d + 1) K xb (xd + 1) d1 (by omega) (by omega) ?_
                rw [eqd, sq_none]
                · exact hK
                · rw [hch]
                  unfold chd inc
                  rw [if_neg (by omega), if_neg (by rw [et, hn1, cIm1]; omega)]
              · rw [if_neg hn1]
                have tn : 0 ≤ tcC ru fs cs I0 J R d 2 := by
                  have : tcC ru fs cs I0 J R d 2 ≠ -1 := fun q => hn1 (by rw [ieq, cIm1, ← et, q])
                  omega
                have bs := bitS ⟨tk, by omega⟩ ⟨d, by omega⟩ hbit
                rw [← i32N hxt (by omega), ← i32N hd (by omega)] at bs
                have bs : (xtk ||| ((1 : Int32) <<< (xd &&& 31))) = Int32.ofNat (tk + 2 ^ d) := bs
                have bu : tk + 2 ^ d < 2 ^ af := bitU ⟨af, by omega⟩ ⟨tk, by omega⟩ ⟨d, by omega⟩ htk (by show d < af; omega) hbit
                have up : upt tk d = tk + 2 ^ d := if_neg (by omega)
                have hv : xd = cdg d := by unfold cdg; rw [if_neg (by omega)]; exact i32N hd (by omega)
                have ex : ∀ y : Int32, y.toInt = (if d = 2 then 0 else 1 : Int) → ∃ r1 K1, F_X3_assign_3 fi f c (xi + 1) (xtk ||| ((1 : Int32) <<< (xd &&& 31))) (xsf + F_X6_costBetween ru (I0 fs d) (I0 cs 2) I0 J R + y) (u2 K t 2 xd) J R = (r1, (K1, J, R)) ∧ StR fi t p ac 2 I0 I K1 (sq (tl5 ch b d) b (ch d)) (if r1 = 0 then xb else 1) ∧ (r1 = 0 ∨ r1 = 1) := fun y hy => by
                  refine go K d xd (xi + 1) (tcC ru fs cs I0 J R d 2 + if d = 2 then 0 else 1) (tl5 ch b d) xb _ _ hK ?_ hv xi1 ?_ (by rw [up]; exact bu) ?_ ?_
                  · unfold inc
                    rw [if_neg (by omega), if_pos ⟨by omega, hbit, tn⟩]
                  · rw [bs, up, Int32.toInt_ofNat_of_lt (by omega)]
                  · have hy2 : 0 ≤ (if d = 2 then 0 else 1 : Int) ∧ (if d = 2 then 0 else 1 : Int) ≤ 1 := by split <;> omega
                    rw [iadd (iadd hsf et.symm (by omega) (by omega)) hy (by omega) (by omega)]
                    omega
                  · split <;> omega
                have fin : ∀ y : Int32, y.toInt = (if d = 2 then 0 else 1 : Int) → AsR fi t p ac 2 I0 I J R (if (F_X3_assign_3 fi f c (xi + 1) (xtk ||| ((1 : Int32) <<< (xd &&& 31))) (xsf + F_X6_costBetween ru (I0 fs d) (I0 cs 2) I0 J R + y) (u2 K t 2 xd) J R).1 = 0 then F_X3_assign_2_45 fi f c xi xtk xsf (I fi 4) g (F_X3_assign_3 fi f c (xi + 1) (xtk ||| ((1 : Int32) <<< (xd &&& 31))) (xsf + F_X6_costBetween ru (I0 fs d) (I0 cs 2) I0 J R + y) (u2 K t 2 xd) J R).2.1 J R xb (xd + 1) else F_X3_assign_2_45 fi f c xi xtk xsf (I fi 4) g (F_X3_assign_3 fi f c (xi + 1) (xtk ||| ((1 : Int32) <<< (xd &&& 31))) (xsf + F_X6_costBetween ru (I0 fs d) (I0 cs 2) I0 J R + y) (u2 K t 2 xd) J R).2.1 J R 1 (xd + 1)) (tl5 ch b 5) := fun y hy => by
                  obtain ⟨r1, K1, q1, q2, q3⟩ := ex y hy
                  rw [q1]
                  dsimp only
                  rcases q3 with z | z
                  · rw [if_pos z] at q2 ⊢
                    exact ih (d + 1) K1 xb (xd + 1) d1 (by omega) (by omega) q2
                  · rw [if_neg (by rw [z]; decide)] at q2 ⊢
                    exact ih (d + 1) K1 1 (xd + 1) d1 (by omega) (by omega) q2
                by_cases hdi : d = 2
                · rw [if_pos (show xd = xi by rw [ieq, hd, hxi, hdi]; rfl)]
                  exact fin 0 (by rw [if_pos hdi]; decide)
                · rw [if_neg (show ¬ xd = xi by rw [ieq, hd, hxi]; omega)]
                  exact fin 1 (by rw [if_neg hdi]; decide)
            · have h1 : tk / 2 ^ d % 2 = 1 := by omega
              rw [h1, if_neg (show ¬ Int32.ofNat 1 = 0 by decide)]
              refine ih (d + 1) K xb (xd + 1) d1 (by omega) (by omega) ?_
              rw [eqd, sq_none]
              · exact hK
              · rw [hch]
                unfold chd inc
                rw [if_neg (by omega), if_neg (fun q => hbit q.2.1)]
      exact lp 5 0 I 0 0 (by decide) (by omega) (by omega) (StR.nu hn)
    · rw [if_neg (show ¬ xi < I0 c 2 by rw [ilt, hxi, hac]; omega)]
      have e4 : ac = 2 := by omega
      have se := settleE (J := J) v3 v6 tf_ pf tp hn hts hb hac4 (pre := pre) (ac := ac) (fun j hj => ht j (by omega))
      obtain ⟨r, I1, q1, q2⟩ := se
      rw [q1]
      rw [e4, Nat.sub_self]
      rw [e4] at q2
      exact ⟨r, I1, rfl, q2⟩
  · rw [if_neg (show ¬ xsf < I fi 4 by rw [ilt, hsf, hb]; exact hlt), tf_prune _ _ _ _ _ _ (by omega)]
    exact ⟨_, _, rfl, StR.nu hn⟩
set_option maxHeartbeats 4000000 in
theorem asg_1 {fi ru w t p co ct f c fs cs af ac : Nat} {I0 : hI} {J : hJ} {R : hR} (cx : Fcx R fi ru w t p co ct f c fs cs) (haf : (I0 f 2).toInt = af) (haf4 : af ≤ 4) (hac : (I0 c 2).toInt = ac) (hac4 : ac ≤ 4) (htc : ∀ d i, d < 4 → i < 4 → -1 ≤ tcC ru fs cs I0 J R d i ∧ tcC ru fs cs I0 J R d i ≤ 300) :
    ∀ (I : hI) (xi xtk xsf : Int32) (tk : Nat) (sf b : Int) (pre : List Nat), Nea fi t p I0 I → xi.toInt = 1 → xtk.toInt = tk → tk < 2 ^ af → xsf.toInt = sf → 0 ≤ sf → sf ≤ 302 + 301 * 1 → (I fi 4).toInt = b → pre.length = 1 → (∀ j, j < 1 → I t j = cdg (pre.getD j 0)) → 1 ≤ ac →
      AsR fi t p ac 1 I0 I J R (F_X3_assign_1 fi f c xi xtk xsf I J R) (tf af (tcC ru fs cs I0 J R) (hcC ct cs I0) (ac - 1) 1 tk sf pre b) := by
  have cx0 := cx
  obtain ⟨v0, v2, v3, v6, vc, v8, vf, vs, ⟨tf_, pf, tp⟩, ⟨w1, w2, w3⟩, ⟨ct1, ct2, ct3⟩, ⟨f1, f2, f3⟩, ⟨c1, c2, c3⟩, ⟨fs1, fs2, fs3⟩, ⟨cs1, cs2, cs3⟩⟩ := cx
  intro I xi xtk xsf tk sf b pre hn hxi hxt htk hsf hs0 hs1 hb hpre ht hia
  simp only [F_X3_assign_1, nm, nmU]
  by_cases hlt : sf < b
  · rw [if_pos (show xsf < I fi 4 by rw [ilt, hsf, hb]; exact hlt)]
    rw [hn c c1 c2 c3]
    have hts : (xsf + 4 * (I f 2 - F_J6_bitCount_0f7a4 xtk)).toInt = sf + lft af tk := by
      have a16 := pow16 ⟨af, by omega⟩
      have e := bitC ⟨af, by omega⟩ ⟨tk, by have : 2 ^ af ≤ 16 := a16; omega⟩ htk
      have l := lft_nn af tk
      rw [hn f f1 f2 f3, i32N haf (by omega), i32N hxt (by have : 2 ^ af ≤ 16 := a16; omega)]
      exact iadd hsf e (by omega) (by omega)
    by_cases hci : 1 < ac
    · rw [if_pos (show xi < I0 c 2 by rw [ilt, hxi, hac]; omega)]
      obtain ⟨r, hr⟩ : ∃ r, ac - 1 = r + 1 := ⟨ac - 2, by omega⟩
      have hr' : ac - 2 = r := by omega
      rw [hr, tf_s]
      obtain ⟨ch, hch⟩ : ∃ ch, ch = chd af (tcC ru fs cs I0 J R) (hcC ct cs I0) r 1 tk sf pre := ⟨_, rfl⟩
      rw [← hch]
      -- what is tried at place i under d
      have go : ∀ (K : hI) (d : Nat) (v xa : Int32) (x : Int) (o : Option (Int × List Nat)) (xb xtk1 xsf1 : Int32), StR fi t p ac 1 I0 I K o xb → inc af (tcC ru fs cs I0 J R) (hcC ct cs I0) 1 d tk = some x → v = cdg d → xa.toInt = 2 → xtk1.toInt = upt tk d → upt tk d < 2 ^ af → xsf1.toInt = sf + x → x ≤ 301 →
          ∃ r1 K1, F_X3_assign_2 fi f c xa xtk1 xsf1 (u2 K t 1 v) J R = (r1, (K1, J, R)) ∧ StR fi t p ac 1 I0 I K1 (sq o b (ch d)) (if r1 = 0 then xb else 1) ∧ (r1 = 0 ∨ r1 = 1) := fun K d v xa x o xb xtk1 xsf1 hK hinc hv hxa ht1 ht2 hs2 hx3 => by
        have hK0 := hK
        obtain ⟨k1, k2, k3, k4⟩ := hK
        obtain ⟨r1, K1, q1, q2⟩ := asg_2 cx0 haf haf4 hac hac4 htc (u2 K t 1 v) xa xtk1 xsf1 (upt tk d) (sf + x) (bd b o) (pre ++ [d]) k1.t hxa ht1 ht2 hs2 (by have := inc_nn hinc; omega) (by omega) (by rw [u2_ne tf_.symm]; exact hK0.bd hb) (by rw [List.length_append, hpre]; rfl) (fun j hj => by
          by_cases hji : j = 1
          · have gr := gd_r (l := pre) (d := d)
            rw [hpre] at gr
            rw [hji, u2_at, hv, gr]
          · rw [u2_nk hji, k3 j (by omega), ht j (by omega), gd_l (by omega)]) (by omega)
        rw [hr'] at q2
        obtain ⟨s1, s2⟩ := StR.comb (g := ch d) (b := b) tf_ tp.symm hK0 q2 (by rw [hch]; unfold chd; rw [hinc])
        exact ⟨r1, K1, q1, s1, s2⟩
      have i4 : xi.toNatClampNeg = 1 := clamp_toInt hxi
      have xi1 : (xi + 1).toInt = 2 := by rw [add1 (b := 4) (by omega) (by omega), hxi]; rfl
      -- the places of f, and the constant at last
      have lp : ∀ (g d : Nat) (K : hI) (xb xd : Int32), xd.toInt = d → d ≤ af → af < g + d → StR fi t p ac 1 I0 I K (tl5 ch b d) xb → AsR fi t p ac 1 I0 I J R (F_X3_assign_1_45 fi f c xi xtk xsf (I fi 4) g K J R xb xd) (tl5 ch b 5) := by
        intro g
        induction g with
        | zero => intro d K xb xd _ h1 h2; omega
        | succ g ih =>
          intro d K xb xd hd hda hg hK
          have kn := hK.1
          rw [F_X3_assign_1_45_s]
          simp only [B_X3_assign_1_45, F_X3_assign_1_145, F_X3_assign_1_143, F_X3_assign_1_138, F_X3_assign_1_83, nm, nmU, v0, v2, v3, vc, vs, vf, Option.getD_some, i4]
          rw [kn f f1 f2 f3, kn cs cs1 cs2 cs3, kn ct ct1 ct2 ct3]
          by_cases hda2 : d = af
          · rw [if_pos (show I0 f 2 ≤ xd by rw [ile, haf, hd]; omega)]
            have en : tl5 ch b 4 = tl5 ch b af := by
              have e : ∀ m, af + m ≤ 4 → tl5 ch b (af + m) = tl5 ch b af := by
                intro m
                induction m with
                | zero => intro _; rfl
                | succ m ihm =>
                  intro hm
                  show sq (tl5 ch b (af + m)) b (ch (af + m)) = _
                  rw [sq_none, ihm (by omega)]
                  rw [hch]
                  unfold chd inc
                  rw [if_neg (by omega), if_neg (by omega)]
              have := e (4 - af) (by omega)
              rw [show af + (4 - af) = 4 by omega] at this
              exact this
            have e5 : tl5 ch b 5 = sq (tl5 ch b d) b (ch 4) := by
              rw [hda2, ← en]; rfl
            by_cases hcn : I0 ct (I0 cs 1).toNatClampNeg = 0
            · rw [if_pos hcn, e5, sq_none]
              · exact ⟨_, _, rfl, hK⟩
              · rw [hch]
                unfold chd inc
                rw [if_pos rfl, if_neg (by unfold hcC; rw [decide_eq_true_iff]; exact fun q => q hcn)]
            · rw [if_neg hcn]
              obtain ⟨r1, K1, q1, q2, q3⟩ := go K 4 9 (xi + 1) 7 (tl5 ch b d) xb xtk (xsf + 7) hK (by unfold inc; rw [if_pos rfl, if_pos (by unfold hcC; rw [decide_eq_true_iff]; exact hcn)]) rfl xi1 hxt htk (by rw [iadd hsf (show Int32.toInt 7 = 7 by decide) (by omega) (by omega)]) (by decide)
              rw [q1, e5]
              dsimp only
              have hxb : xb = 0 ∨ xb = 1 := by
                rcases hK.2.2.2 with ⟨-, z, -⟩ | ⟨q, -, z, -⟩
                · exact Or.inl z
                · exact Or.inr z
              rcases q3 with z | z
              · rw [if_pos z] at q2 ⊢
                rcases hxb with y | y
                · rw [if_pos y]
                  rw [y] at q2
                  exact ⟨_, _, rfl, q2⟩
                · rw [if_neg (by rw [y]; decide)]
                  rw [y] at q2
                  exact ⟨_, _, rfl, q2⟩
              · rw [if_neg (by rw [z]; decide)] at q2 ⊢
                exact ⟨_, _, rfl, q2⟩
          · rw [if_neg (show ¬ I0 f 2 ≤ xd by rw [ile, haf, hd]; omega)]
            have a16 : 2 ^ af ≤ 16 := pow16 ⟨af, by omega⟩
            have d1 : (xd + 1).toInt = ((d + 1 : Nat) : Int) := by rw [add1 (b := 5) (by omega) (by omega), hd]; omega
            have bt := bitT ⟨tk, by omega⟩ ⟨d, by omega⟩
            rw [← i32N hxt (by omega), ← i32N hd (by omega)] at bt
            have bt : (xtk >>> (xd &&& 31)) &&& 1 = Int32.ofNat (tk / 2 ^ d % 2) := bt
            rw [bt]
            have eqd : tl5 ch b (d + 1) = sq (tl5 ch b d) b (ch d) := rfl
            by_cases hbit : tk / 2 ^ d % 2 = 0
            · rw [hbit, if_pos (show Int32.ofNat 0 = 0 from rfl)]
              simp only [F_X3_take_1, F_X3_take_1_49, nm, nmU, v0, v3, vf, vs, Option.getD_some, i4, clamp_toInt hd]
              rw [kn fs fs1 fs2 fs3, kn cs cs1 cs2 cs3, cbw v8 (kn w w1 w2 w3)]
              have et : tcC ru fs cs I0 J R d 1 = (F_X6_costBetween ru (I0 fs d) (I0 cs 1) I0 J R).toInt := if_pos ⟨by omega, by decide⟩
              have hb2 := htc d 1 (by omega) (by decide)
              by_cases hn1 : F_X6_costBetween ru (I0 fs d) (I0 cs 1) I0 J R = -1
              · rw [if_pos hn1]
                dsimp only
                rw [if_pos (show (0 : Int32) = 0 from rfl)]
                refine ih (d + 1) K xb (xd + 1) d1 (by omega) (by omega) ?_
                rw [eqd, sq_none]
                · exact hK
                · rw [hch]
                  unfold chd inc
                  rw [if_neg (by omega), if_neg (by rw [et, hn1, cIm1]; omega)]
              · rw [if_neg hn1]
                have tn : 0 ≤ tcC ru fs cs I0 J R d 1 := by
                  have : tcC ru fs cs I0 J R d 1 ≠ -1 := fun q => hn1 (by rw [ieq, cIm1, ← et, q])
                  omega
                have bs := bitS ⟨tk, by omega⟩ ⟨d, by omega⟩ hbit
                rw [← i32N hxt (by omega), ← i32N hd (by omega)] at bs
                have bs : (xtk ||| ((1 : Int32) <<< (xd &&& 31))) = Int32.ofNat (tk + 2 ^ d) := bs
                have bu : tk + 2 ^ d < 2 ^ af := bitU ⟨af, by omega⟩ ⟨tk, by omega⟩ ⟨d, by omega⟩ htk (by show d < af; omega) hbit
                have up : upt tk d = tk + 2 ^ d := if_neg (by omega)
                have hv : xd = cdg d := by unfold cdg; rw [if_neg (by omega)]; exact i32N hd (by omega)
                have ex : ∀ y : Int32, y.toInt = (if d = 1 then 0 else 1 : Int) → ∃ r1 K1, F_X3_assign_2 fi f c (xi + 1) (xtk ||| ((1 : Int32) <<< (xd &&& 31))) (xsf + F_X6_costBetween ru (I0 fs d) (I0 cs 1) I0 J R + y) (u2 K t 1 xd) J R = (r1, (K1, J, R)) ∧ StR fi t p ac 1 I0 I K1 (sq (tl5 ch b d) b (ch d)) (if r1 = 0 then xb else 1) ∧ (r1 = 0 ∨ r1 = 1) := fun y hy => by
                  refine go K d xd (xi + 1) (tcC ru fs cs I0 J R d 1 + if d = 1 then 0 else 1) (tl5 ch b d) xb _ _ hK ?_ hv xi1 ?_ (by rw [up]; exact bu) ?_ ?_
                  · unfold inc
                    rw [if_neg (by omega), if_pos ⟨by omega, hbit, tn⟩]
                  · rw [bs, up, Int32.toInt_ofNat_of_lt (by omega)]
                  · have hy2 : 0 ≤ (if d = 1 then 0 else 1 : Int) ∧ (if d = 1 then 0 else 1 : Int) ≤ 1 := by split <;> omega
                    rw [iadd (iadd hsf et.symm (by omega) (by omega)) hy (by omega) (by omega)]
                    omega
                  · split <;> omega
                have fin : ∀ y : Int32, y.toInt = (if d = 1 then 0 else 1 : Int) → AsR fi t p ac 1 I0 I J R (if (F_X3_assign_2 fi f c (xi + 1) (xtk ||| ((1 : Int32) <<< (xd &&& 31))) (xsf + F_X6_costBetween ru (I0 fs d) (I0 cs 1) I0 J R + y) (u2 K t 1 xd) J R).1 = 0 then F_X3_assign_1_45 fi f c xi xtk xsf (I fi 4) g (F_X3_assign_2 fi f c (xi + 1) (xtk ||| ((1 : Int32) <<< (xd &&& 31))) (xsf + F_X6_costBetween ru (I0 fs d) (I0 cs 1) I0 J R + y) (u2 K t 1 xd) J R).2.1 J R xb (xd + 1) else F_X3_assign_1_45 fi f c xi xtk xsf (I fi 4) g (F_X3_assign_2 fi f c (xi + 1) (xtk ||| ((1 : Int32) <<< (xd &&& 31))) (xsf + F_X6_costBetween ru (I0 fs d) (I0 cs 1) I0 J R + y) (u2 K t 1 xd) J R).2.1 J R 1 (xd + 1)) (tl5 ch b 5) := fun y hy => by
                  obtain ⟨r1, K1, q1, q2, q3⟩ := ex y hy
                  rw [q1]
                  dsimp only
                  rcases q3 with z | z
                  · rw [if_pos z] at q2 ⊢
                    exact ih (d + 1) K1 xb (xd + 1) d1 (by omega) (by omega) q2
                  · rw [if_neg (by rw [z]; decide)] at q2 ⊢
                    exact ih (d + 1) K1 1 (xd + 1) d1 (by omega) (by omega) q2
                by_cases hdi : d = 1
                · rw [if_pos (show xd = xi by rw [ieq, hd, hxi, hdi]; rfl)]
                  exact fin 0 (by rw [if_pos hdi]; decide)
                · rw [if_neg (show ¬ xd = xi by rw [ieq, hd, hxi]; omega)]
                  exact fin 1 (by rw [if_neg hdi]; decide)
            · have h1 : tk / 2 ^ d % 2 = 1 := by omega
              rw [h1, if_neg (show ¬ Int32.ofNat 1 = 0 by decide)]
              refine ih (d + 1) K xb (xd + 1) d1 (by omega) (by omega) ?_
              rw [eqd, sq_none]
              · exact hK
              · rw [hch]
                unfold chd inc
                rw [if_neg (by omega), if_neg (fun q => hbit q.2.1)]
      exact lp 5 0 I 0 0 (by decide) (by omega) (by omega) (StR.nu hn)
    · rw [if_neg (show ¬ xi < I0 c 2 by rw [ilt, hxi, hac]; omega)]
      have e4 : ac = 1 := by omega
      have se := settleE (J := J) v3 v6 tf_ pf tp hn hts hb hac4 (pre := pre) (ac := ac) (fun j hj => ht j (by omega))
      obtain ⟨r, I1, q1, q2⟩ := se
      rw [q1]
      rw [e4, Nat.sub_self]
      rw [e4] at q2
      exact ⟨r, I1, rfl, q2⟩
  · rw [if_neg (show ¬ xsf < I fi 4 by rw [ilt, hsf, hb]; exact hlt), tf_prune _ _ _ _ _ _ (by omega)]
    exact ⟨_, _, rfl, StR.nu hn⟩
set_option maxHeartbeats 4000000 in
theorem asg_0 {fi ru w t p co ct f c fs cs af ac : Nat} {I0 : hI} {J : hJ} {R : hR} (cx : Fcx R fi ru w t p co ct f c fs cs) (haf : (I0 f 2).toInt = af) (haf4 : af ≤ 4) (hac : (I0 c 2).toInt = ac) (hac4 : ac ≤ 4) (htc : ∀ d i, d < 4 → i < 4 → -1 ≤ tcC ru fs cs I0 J R d i ∧ tcC ru fs cs I0 J R d i ≤ 300) :
    ∀ (I : hI) (xi xtk xsf : Int32) (tk : Nat) (sf b : Int) (pre : List Nat), Nea fi t p I0 I → xi.toInt = 0 → xtk.toInt = tk → tk < 2 ^ af → xsf.toInt = sf → 0 ≤ sf → sf ≤ 302 + 301 * 0 → (I fi 4).toInt = b → pre.length = 0 → (∀ j, j < 0 → I t j = cdg (pre.getD j 0)) → 0 ≤ ac →
      AsR fi t p ac 0 I0 I J R (F_X3_assign_0 fi f c xi xtk xsf I J R) (tf af (tcC ru fs cs I0 J R) (hcC ct cs I0) (ac - 0) 0 tk sf pre b) := by
  have cx0 := cx
  obtain ⟨v0, v2, v3, v6, vc, v8, vf, vs, ⟨tf_, pf, tp⟩, ⟨w1, w2, w3⟩, ⟨ct1, ct2, ct3⟩, ⟨f1, f2, f3⟩, ⟨c1, c2, c3⟩, ⟨fs1, fs2, fs3⟩, ⟨cs1, cs2, cs3⟩⟩ := cx
  intro I xi xtk xsf tk sf b pre hn hxi hxt htk hsf hs0 hs1 hb hpre ht hia
  simp only [F_X3_assign_0, nm, nmU]
  by_cases hlt : sf < b
  · rw [if_pos (show xsf < I fi 4 by rw [ilt, hsf, hb]; exact hlt)]
    rw [hn c c1 c2 c3]
    have hts : (xsf + 4 * (I f 2 - F_J6_bitCount_0f7a4 xtk)).toInt = sf + lft af tk := by
      have a16 := pow16 ⟨af, by omega⟩
      have e := bitC ⟨af, by omega⟩ ⟨tk, by have : 2 ^ af ≤ 16 := a16; omega⟩ htk
      have l := lft_nn af tk
      rw [hn f f1 f2 f3, i32N haf (by omega), i32N hxt (by have : 2 ^ af ≤ 16 := a16; omega)]
      exact iadd hsf e (by omega) (by omega)
    by_cases hci : 0 < ac
    · rw [if_pos (show xi < I0 c 2 by rw [ilt, hxi, hac]; omega)]
      obtain ⟨r, hr⟩ : ∃ r, ac - 0 = r + 1 := ⟨ac - 1, by omega⟩
      have hr' : ac - 1 = r := by omega
      rw [hr, tf_s]
      obtain ⟨ch, hch⟩ : ∃ ch, ch = chd af (tcC ru fs cs I0 J R) (hcC ct cs I0) r 0 tk sf pre := ⟨_, rfl⟩
      rw [← hch]
      -- what is tried at place i under d
      have go : ∀ (K : hI) (d : Nat) (v xa : Int32) (x : Int) (o : Option (Int × List Nat)) (xb xtk1 xsf1 : Int32), StR fi t p ac 0 I0 I K o xb → inc af (tcC ru fs cs I0 J R) (hcC ct cs I0) 0 d tk = some x → v = cdg d → xa.toInt = 1 → xtk1.toInt = upt tk d → upt tk d < 2 ^ af → xsf1.toInt = sf + x → x ≤ 301 →
          ∃ r1 K1, F_X3_assign_1 fi f c xa xtk1 xsf1 (u2 K t 0 v) J R = (r1, (K1, J, R)) ∧ StR fi t p ac 0 I0 I K1 (sq o b (ch d)) (if r1 = 0 then xb else 1) ∧ (r1 = 0 ∨ r1 = 1) := fun K d v xa x o xb xtk1 xsf1 hK hinc hv hxa ht1 ht2 hs2 hx3 => by
        have hK0 := hK
        obtain ⟨k1, k2, k3, k4⟩ := hK
        obtain ⟨r1, K1, q1, q2⟩ := asg_1 cx0 haf haf4 hac hac4 htc (u2 K t 0 v) xa xtk1 xsf1 (upt tk d) (sf + x) (bd b o) (pre ++ [d]) k1.t hxa ht1 ht2 hs2 (by have := inc_nn hinc; omega) (by omega) (by rw [u2_ne tf_.symm]; exact hK0.bd hb) (by rw [List.length_append, hpre]; rfl) (fun j hj => by
          by_cases hji : j = 0
          · have gr := gd_r (l := pre) (d := d)
            rw [hpre] at gr
            rw [hji, u2_at, hv, gr]
          · rw [u2_nk hji, k3 j (by omega), ht j (by omega), gd_l (by omega)]) (by omega)
        rw [hr'] at q2
        obtain ⟨s1, s2⟩ := StR.comb (g := ch d) (b := b) tf_ tp.symm hK0 q2 (by rw [hch]; unfold chd; rw [hinc])
        exact ⟨r1, K1, q1, s1, s2⟩
      have i4 : xi.toNatClampNeg = 0 := clamp_toInt hxi
      have xi1 : (xi + 1).toInt = 1 := by rw [add1 (b := 4) (by omega) (by omega), hxi]; rfl
      -- the places of f, and the constant at last
      have lp : ∀ (g d : Nat) (K : hI) (xb xd : Int32), xd.toInt = d → d ≤ af → af < g + d → StR fi t p ac 0 I0 I K (tl5 ch b d) xb → AsR fi t p ac 0 I0 I J R (F_X3_assign_0_45 fi f c xi xtk xsf (I fi 4) g K J R xb xd) (tl5 ch b 5) := by
        intro g
        induction g with
        | zero => intro d K xb xd _ h1 h2; omega
        | succ g ih =>
          intro d K xb xd hd hda hg hK
          have kn := hK.1
          rw [F_X3_assign_0_45_s]
          simp only [B_X3_assign_0_45, F_X3_assign_0_145, F_X3_assign_0_143, F_X3_assign_0_138, F_X3_assign_0_83, nm, nmU, v0, v2, v3, vc, vs, vf, Option.getD_some, i4]
          rw [kn f f1 f2 f3, kn cs cs1 cs2 cs3, kn ct ct1 ct2 ct3]
          by_cases hda2 : d = af
          · rw [if_pos (show I0 f 2 ≤ xd by rw [ile, haf, hd]; omega)]
            have en : tl5 ch b 4 = tl5 ch b af := by
              have e : ∀ m, af + m ≤ 4 → tl5 ch b (af + m) = tl5 ch b af := by
                intro m
                induction m with
                | zero => intro _; rfl
                | succ m ihm =>
                  intro hm
                  show sq (tl5 ch b (af + m)) b (ch (af + m)) = _
                  rw [sq_none, ihm (by omega)]
                  rw [hch]
                  unfold chd inc
                  rw [if_neg (by omega), if_neg (by omega)]
              have := e (4 - af) (by omega)
              rw [show af + (4 - af) = 4 by omega] at this
              exact this
            have e5 : tl5 ch b 5 = sq (tl5 ch b d) b (ch 4) := by
              rw [hda2, ← en]; rfl
            by_cases hcn : I0 ct (I0 cs 0).toNatClampNeg = 0
            · rw [if_pos hcn, e5, sq_none]
              · exact ⟨_, _, rfl, hK⟩
              · rw [hch]
                unfold chd inc
                rw [if_pos rfl, if_neg (by unfold hcC; rw [decide_eq_true_iff]; exact fun q => q hcn)]
            · rw [if_neg hcn]
              obtain ⟨r1, K1, q1, q2, q3⟩ := go K 4 9 (xi + 1) 7 (tl5 ch b d) xb xtk (xsf + 7) hK (by unfold inc; rw [if_pos rfl, if_pos (by unfold hcC; rw [decide_eq_true_iff]; exact hcn)]) rfl xi1 hxt htk (by rw [iadd hsf (show Int32.toInt 7 = 7 by decide) (by omega) (by omega)]) (by decide)
              rw [q1, e5]
              dsimp only
              have hxb : xb = 0 ∨ xb = 1 := by
                rcases hK.2.2.2 with ⟨-, z, -⟩ | ⟨q, -, z, -⟩
                · exact Or.inl z
                · exact Or.inr z
              rcases q3 with z | z
              · rw [if_pos z] at q2 ⊢
                rcases hxb with y | y
                · rw [if_pos y]
                  rw [y] at q2
                  exact ⟨_, _, rfl, q2⟩
                · rw [if_neg (by rw [y]; decide)]
                  rw [y] at q2
                  exact ⟨_, _, rfl, q2⟩
              · rw [if_neg (by rw [z]; decide)] at q2 ⊢
                exact ⟨_, _, rfl, q2⟩
          · rw [if_neg (show ¬ I0 f 2 ≤ xd by rw [ile, haf, hd]; omega)]
            have a16 : 2 ^ af ≤ 16 := pow16 ⟨af, by omega⟩
            have d1 : (xd + 1).toInt = ((d + 1 : Nat) : Int) := by rw [add1 (b := 5) (by omega) (by omega), hd]; omega
            have bt := bitT ⟨tk, by omega⟩ ⟨d, by omega⟩
            rw [← i32N hxt (by omega), ← i32N hd (by omega)] at bt
            have bt : (xtk >>> (xd &&& 31)) &&& 1 = Int32.ofNat (tk / 2 ^ d % 2) := bt
            rw [bt]
            have eqd : tl5 ch b (d + 1) = sq (tl5 ch b d) b (ch d) := rfl
            by_cases hbit : tk / 2 ^ d % 2 = 0
            · rw [hbit, if_pos (show Int32.ofNat 0 = 0 from rfl)]
              simp only [F_X3_take_0, F_X3_take_0_49, nm, nmU, v0, v3, vf, vs, Option.getD_some, i4, clamp_toInt hd]
              rw [kn fs fs1 fs2 fs3, kn cs cs1 cs2 cs3, cbw v8 (kn w w1 w2 w3)]
              have et : tcC ru fs cs I0 J R d 0 = (F_X6_costBetween ru (I0 fs d) (I0 cs 0) I0 J R).toInt := if_pos ⟨by omega, by decide⟩
              have hb2 := htc d 0 (by omega) (by decide)
              by_cases hn1 : F_X6_costBetween ru (I0 fs d) (I0 cs 0) I0 J R = -1
              · rw [if_pos hn1]
                dsimp only
                rw [if_pos (show (0 : Int32) = 0 from rfl)]
                refine ih (d + 1) K xb (xd + 1) d1 (by omega) (by omega) ?_
                rw [eqd, sq_none]
                · exact hK
                · rw [hch]
                  unfold chd inc
                  rw [if_neg (by omega), if_neg (by rw [et, hn1, cIm1]; omega)]
              · rw [if_neg hn1]
                have tn : 0 ≤ tcC ru fs cs I0 J R d 0 := by
                  have : tcC ru fs cs I0 J R d 0 ≠ -1 := fun q => hn1 (by rw [ieq, cIm1, ← et, q])
                  omega
                have bs := bitS ⟨tk, by omega⟩ ⟨d, by omega⟩ hbit
                rw [← i32N hxt (by omega), ← i32N hd (by omega)] at bs
                have bs : (xtk ||| ((1 : Int32) <<< (xd &&& 31))) = Int32.ofNat (tk + 2 ^ d) := bs
                have bu : tk + 2 ^ d < 2 ^ af := bitU ⟨af, by omega⟩ ⟨tk, by omega⟩ ⟨d, by omega⟩ htk (by show d < af; omega) hbit
                have up : upt tk d = tk + 2 ^ d := if_neg (by omega)
                have hv : xd = cdg d := by unfold cdg; rw [if_neg (by omega)]; exact i32N hd (by omega)
                have ex : ∀ y : Int32, y.toInt = (if d = 0 then 0 else 1 : Int) → ∃ r1 K1, F_X3_assign_1 fi f c (xi + 1) (xtk ||| ((1 : Int32) <<< (xd &&& 31))) (xsf + F_X6_costBetween ru (I0 fs d) (I0 cs 0) I0 J R + y) (u2 K t 0 xd) J R = (r1, (K1, J, R)) ∧ StR fi t p ac 0 I0 I K1 (sq (tl5 ch b d) b (ch d)) (if r1 = 0 then xb else 1) ∧ (r1 = 0 ∨ r1 = 1) := fun y hy => by
                  refine go K d xd (xi + 1) (tcC ru fs cs I0 J R d 0 + if d = 0 then 0 else 1) (tl5 ch b d) xb _ _ hK ?_ hv xi1 ?_ (by rw [up]; exact bu) ?_ ?_
                  · unfold inc
                    rw [if_neg (by omega), if_pos ⟨by omega, hbit, tn⟩]
                  · rw [bs, up, Int32.toInt_ofNat_of_lt (by omega)]
                  · have hy2 : 0 ≤ (if d = 0 then 0 else 1 : Int) ∧ (if d = 0 then 0 else 1 : Int) ≤ 1 := by split <;> omega
                    rw [iadd (iadd hsf et.symm (by omega) (by omega)) hy (by omega) (by omega)]
                    omega
                  · split <;> omega
                have fin : ∀ y : Int32, y.toInt = (if d = 0 then 0 else 1 : Int) → AsR fi t p ac 0 I0 I J R (if (F_X3_assign_1 fi f c (xi + 1) (xtk ||| ((1 : Int32) <<< (xd &&& 31))) (xsf + F_X6_costBetween ru (I0 fs d) (I0 cs 0) I0 J R + y) (u2 K t 0 xd) J R).1 = 0 then F_X3_assign_0_45 fi f c xi xtk xsf (I fi 4) g (F_X3_assign_1 fi f c (xi + 1) (xtk ||| ((1 : Int32) <<< (xd &&& 31))) (xsf + F_X6_costBetween ru (I0 fs d) (I0 cs 0) I0 J R + y) (u2 K t 0 xd) J R).2.1 J R xb (xd + 1) else F_X3_assign_0_45 fi f c xi xtk xsf (I fi 4) g (F_X3_assign_1 fi f c (xi + 1) (xtk ||| ((1 : Int32) <<< (xd &&& 31))) (xsf + F_X6_costBetween ru (I0 fs d) (I0 cs 0) I0 J R + y) (u2 K t 0 xd) J R).2.1 J R 1 (xd + 1)) (tl5 ch b 5) := fun y hy => by
                  obtain ⟨r1, K1, q1, q2, q3⟩ := ex y hy
                  rw [q1]
                  dsimp only
                  rcases q3 with z | z
                  · rw [if_pos z] at q2 ⊢
                    exact ih (d + 1) K1 xb (xd + 1) d1 (by omega) (by omega) q2
                  · rw [if_neg (by rw [z]; decide)] at q2 ⊢
                    exact ih (d + 1) K1 1 (xd + 1) d1 (by omega) (by omega) q2
                by_cases hdi : d = 0
                · rw [if_pos (show xd = xi by rw [ieq, hd, hxi, hdi]; rfl)]
                  exact fin 0 (by rw [if_pos hdi]; decide)
                · rw [if_neg (show ¬ xd = xi by rw [ieq, hd, hxi]; omega)]
                  exact fin 1 (by rw [if_neg hdi]; decide)
            · have h1 : tk / 2 ^ d % 2 = 1 := by omega
              rw [h1, if_neg (show ¬ Int32.ofNat 1 = 0 by decide)]
              refine ih (d + 1) K xb (xd + 1) d1 (by omega) (by omega) ?_
              rw [eqd, sq_none]
              · exact hK
              · rw [hch]
                unfold chd inc
                rw [if_neg (by omega), if_neg (fun q => hbit q.2.1)]
      exact lp 5 0 I 0 0 (by decide) (by omega) (by omega) (StR.nu hn)
    · rw [if_neg (show ¬ xi < I0 c 2 by rw [ilt, hxi, hac]; omega)]
      have e4 : ac = 0 := by omega
      have se := settleE (J := J) v3 v6 tf_ pf tp hn hts hb hac4 (pre := pre) (ac := ac) (fun j hj => ht j (by omega))
      obtain ⟨r, I1, q1, q2⟩ := se
      rw [q1]
      rw [e4, Nat.sub_self]
      rw [e4] at q2
      exact ⟨r, I1, rfl, q2⟩
  · rw [if_neg (show ¬ xsf < I fi 4 by rw [ilt, hsf, hb]; exact hlt), tf_prune _ _ _ _ _ _ (by omega)]
    exact ⟨_, _, rfl, StR.nu hn⟩
