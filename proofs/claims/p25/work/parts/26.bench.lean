noncomputable def F_X10_rule (a0 : Nat) (x1 : Int32) (x2 : Int32) (x3 : Int32) (x4 : Int32) (I : hI) (J : hJ) (R : hR) : Int32 × hU :=
  nm (F_X10_isSort x1) fun y1 => (if y1 = (1 : Int32) then nm (F_X10_isSort x2) fun y4 => (if y4 = (1 : Int32) then (if x1 = x2 then ((-3 : Int32), (I, J, R)) else nm (F_X10_isWithin x3 (1 : Int32) (50 : Int32)) fun y10 => (if y10 = (1 : Int32) then (if x4 < (0 : Int32) then ((-3 : Int32), (I, J, R)) else nm (x4 / (10000 : Int32)) fun y22 => (if (2000 : Int32) < y22 then ((-3 : Int32), (I, J, R)) else nm (x4 - x4 / (10000 : Int32) * (10000 : Int32)) fun y28 => (if y28 ≤ (2000 : Int32) then nm ((R a0 0).getD 0) fun b32 => nm (F_X6_hasRoom b32 I J R) fun y33 => (if y33 = (1 : Int32) then nm (I b32 6) fun y34 => nm ((R a0 5).getD 0) fun b39 => nmW (F_X9_forgetAll b39 I J R) fun I40 _ _ => nm (y22 - (1000 : Int32)) fun y42 => nm (y28 - (1000 : Int32)) fun y44 => nmU (F_X6_tell b32 x1 x2 x3 y42 y44 I40 J R) fun y45 I45 _ _ => (y45, (I45, J, R)) else nm (I b32 6) fun y36 => ((-5 : Int32), (I, J, R))) else ((-3 : Int32), (I, J, R))))) else ((-3 : Int32), (I, J, R)))) else ((-3 : Int32), (I, J, R))) else ((-3 : Int32), (I, J, R)))
def ms_X10_rule : List Nat := [390, 391, 2048, 2112, 2176, 2240, 2304, 2368, 2432, 2496, 2880]
set_option maxHeartbeats 4000000 in
set_option maxRecDepth 100000 in
theorem c_X10_rule {l : Launch} {D : va_G} {cy : Nat → ClassId} {L : List Nat} {C : Nat → Nat} {b0 : Nat} {I : hI} {J : hJ} {R : hR} {a0 : Nat} {x1 : Int32} {x2 : Int32} {x3 : Int32} {x4 : Int32} (oI : OkI L C I) (oR : OkR L C R) (m0 : a0 ∈ L) (k0 : C a0 = 10) (hU : Uq L C) : CI l yX10_rule cX10_rule 5 .int 4 D cy L C b0 [.ref a0, .int x1, .int x2, .int x3, .int x4] (I, J, R) (fun r v => Ps L C ms_X10_rule (I, J, R) v ∧ v.2.1 = J ∧ v.2.2 = R ∧ Rg r (-5) (31) ∧ (∀ ru ∈ L, C ru = 6 → ∀ tj ∈ L, C tj = 37 → r = ruleR (I ru 6) x1 x2 x3 x4 ∧ v.1 ru 6 = ruleT (I ru 6) x1 x2 x3 x4 ∧ v.1 tj = ruleH (I ru 6) (I tj) x1 x2 x3 x4 1) ∧ F_X10_rule a0 x1 x2 x3 x4 I J R = (r, v)) := by
  refine CI.mkI (plainFor_of_name (by decide)) (Nat.le_of_ble_eq_true rfl) ?_
  intro p e s m args below meth c ls Q hF ret hH hl
  obtain ⟨hx, hb, -, hml, hown, hts, -⟩ := hF
  have hl : lv_has ls 5 [(0, .ref a0), (1, .int x1), (2, .int x2), (3, .int x3), (4, .int x4)] := hl
  have hH : Hp D cy L C b0 s s.heap I J R s.heap [] := hH
  have sm : Sm C ms_X10_rule (I, J, R) (I, J, R) := Sm.rf
  obtain ⟨TT0, hT⟩ : ∃ TT0, TT0 = F_X10_rule a0 x1 x2 x3 x4 I J R := ⟨_, rfl⟩
  have hv := hT
  unfold F_X10_rule at hv
  refine lv_iload_n hx hb dX10_rule_0 rfl (lv_at hl 1 rfl) ?_
  refine ca_X10_78 hx hb hml hown hts hH (c_X10_isSort ) hl.1 (by decide) (Nat.le_of_ble_eq_true rfl) ⟨Nat.zero_le _, Nat.zero_le _⟩ dX10_rule_1 (fun y1 I1 J1 R1 H locs hp hH => ?_)
  obtain ⟨eI1, eJ1, eR1, ry1, hp1, hf1⟩ := hp
  obtain rfl : I = I1 := eI1.symm
  obtain rfl : J = J1 := eJ1.symm
  obtain rfl : R = R1 := eR1.symm
  replace hv := fnS hv hf1.symm
  rcases hp1 with ⟨rfl, hq1⟩ | ⟨rfl, hq1⟩
  rotate_left
  · replace hv := fnN hv (by decide)
    refine lv_if_eq (tgt := 29) hx hb dX10_rule_4 (by decide) (fun q53 => ?_) (fun q53 => ?_)
    rotate_left
    · exact absurd rfl q53
    refine lv_bipush (v := (-3)) hx hb dX10_rule_29 (by decide) ?_
    exact ret ((-3)) _ _ _ _ _ _ _ dX10_rule_31 hH ⟨⟨oI, oR, sm⟩, rfl, rfl, (Rg_w (Rg_c (x := (-3)) (a := (-3)) (b := (-3)) (by decide)) (by decide)), (by intro ru mru kru tj mtj ktj; have di0 : Int32.toInt (0) = 0 := (by decide); have di1 : Int32.toInt (1) = 1 := (by decide); have di2 : Int32.toInt (6) = 6 := (by decide); have di3 : Int32.toInt (50) = 50 := (by decide); have di4 : Int32.toInt (2000) = 2000 := (by decide); have di5 : Int32.toInt (10000) = 10000 := (by decide); obtain ⟨o1, o2, o3⟩ := rule_out (t := I ru 6) (show ¬ ruleOk x1 x2 x3 x4 by unfold ruleOk; omega); rw [o1, o2, o3]; exact ⟨rfl, rfl, rfl⟩), (hT.symm.trans hv)⟩
  replace hv := fnP hv rfl
  have r2 : Rg x1 (0) (6) := ⟨by have h9 := (Rg_any x1).1; omega, by have h9 := (Rg_any x1).2; omega⟩
  refine lv_if_eq (tgt := 29) hx hb dX10_rule_4 (by decide) (fun q3 => ?_) (fun q3 => ?_)
  · exact absurd q3 (by decide)
  refine lv_iload_n hx hb dX10_rule_7 rfl (lv_at hl 2 rfl) ?_
  refine ca_X10_78 hx hb hml hown hts hH (c_X10_isSort ) hl.1 (by decide) (Nat.le_of_ble_eq_true rfl) ⟨Nat.zero_le _, Nat.zero_le _⟩ dX10_rule_8 (fun y4 I4 J4 R4 H locs hp hH => ?_)
  obtain ⟨eI4, eJ4, eR4, ry4, hp4, hf4⟩ := hp
  obtain rfl : I = I4 := eI4.symm
  obtain rfl : J = J4 := eJ4.symm
  obtain rfl : R = R4 := eR4.symm
  replace hv := fnS hv hf4.symm
  rcases hp4 with ⟨rfl, hq4⟩ | ⟨rfl, hq4⟩
  rotate_left
  · replace hv := fnN hv (by decide)
    refine lv_if_eq (tgt := 29) hx hb dX10_rule_11 (by decide) (fun q52 => ?_) (fun q52 => ?_)
    rotate_left
    · exact absurd rfl q52
    refine lv_bipush (v := (-3)) hx hb dX10_rule_29 (by decide) ?_
    exact ret ((-3)) _ _ _ _ _ _ _ dX10_rule_31 hH ⟨⟨oI, oR, sm⟩, rfl, rfl, (Rg_w (Rg_c (x := (-3)) (a := (-3)) (b := (-3)) (by decide)) (by decide)), (by intro ru mru kru tj mtj ktj; obtain ⟨ga0, gb0⟩ := r2; have di0 : Int32.toInt (0) = 0 := (by decide); have di1 : Int32.toInt (1) = 1 := (by decide); have di2 : Int32.toInt (6) = 6 := (by decide); have di3 : Int32.toInt (50) = 50 := (by decide); have di4 : Int32.toInt (2000) = 2000 := (by decide); have di5 : Int32.toInt (10000) = 10000 := (by decide); obtain ⟨o1, o2, o3⟩ := rule_out (t := I ru 6) (show ¬ ruleOk x1 x2 x3 x4 by unfold ruleOk; omega); rw [o1, o2, o3]; exact ⟨rfl, rfl, rfl⟩), (hT.symm.trans hv)⟩
  replace hv := fnP hv rfl
  have r5 : Rg x2 (0) (6) := ⟨by have h9 := (Rg_any x2).1; omega, by have h9 := (Rg_any x2).2; omega⟩
  refine lv_if_eq (tgt := 29) hx hb dX10_rule_11 (by decide) (fun q6 => ?_) (fun q6 => ?_)
  · exact absurd q6 (by decide)
  refine lv_iload_n hx hb dX10_rule_14 rfl (lv_at hl 1 rfl) ?_
  refine lv_iload_n hx hb dX10_rule_15 rfl (lv_at hl 2 rfl) ?_
  refine lv_icmp_eq (tgt := 29) hx hb dX10_rule_16 (by decide) (fun q7 => ?_) (fun q7 => ?_)
  · replace hv := fnP hv q7
    have l8 := congrArg Int32.toInt q7
    refine lv_bipush (v := (-3)) hx hb dX10_rule_29 (by decide) ?_
    exact ret ((-3)) _ _ _ _ _ _ _ dX10_rule_31 hH ⟨⟨oI, oR, sm⟩, rfl, rfl, (Rg_w (Rg_c (x := (-3)) (a := (-3)) (b := (-3)) (by decide)) (by decide)), (by intro ru mru kru tj mtj ktj; obtain ⟨ga0, gb0⟩ := r2; obtain ⟨ga1, gb1⟩ := r5; have di0 : Int32.toInt (0) = 0 := (by decide); have di1 : Int32.toInt (1) = 1 := (by decide); have di2 : Int32.toInt (6) = 6 := (by decide); have di3 : Int32.toInt (50) = 50 := (by decide); have di4 : Int32.toInt (2000) = 2000 := (by decide); have di5 : Int32.toInt (10000) = 10000 := (by decide); obtain ⟨o1, o2, o3⟩ := rule_out (t := I ru 6) (show ¬ ruleOk x1 x2 x3 x4 by unfold ruleOk; omega); rw [o1, o2, o3]; exact ⟨rfl, rfl, rfl⟩), (hT.symm.trans hv)⟩
  replace hv := fnN hv q7
  have l9 := Rg_ne q7
  refine lv_iload_n hx hb dX10_rule_19 rfl (lv_at hl 3 rfl) ?_
  refine lv_iconst (v := 1) hx hb dX10_rule_20 (by decide) ?_
  refine lv_bipush (v := 50) hx hb dX10_rule_21 (by decide) ?_
  refine ca_X10_82 hx hb hml hown hts hH (c_X10_isWithin ) hl.1 (by decide) (Nat.le_of_ble_eq_true rfl) ⟨Nat.zero_le _, Nat.zero_le _⟩ dX10_rule_23 (fun y10 I10 J10 R10 H locs hp hH => ?_)
  obtain ⟨eI10, eJ10, eR10, ry10, hp10, hf10⟩ := hp
  obtain rfl : I = I10 := eI10.symm
  obtain rfl : J = J10 := eJ10.symm
  obtain rfl : R = R10 := eR10.symm
  replace hv := fnS hv hf10.symm
  rcases hp10 with ⟨rfl, hq10⟩ | ⟨rfl, hq10⟩
  rotate_left
  · replace hv := fnN hv (by decide)
    have l15 := hq10
    simp only [Int32.toInt_toInt64, show Int64.toInt (1) = 1 by decide, show Int64.toInt (50) = 50 by decide, show Int32.toInt (1) = 1 by decide, show Int32.toInt (50) = 50 by decide] at l15
    refine lv_if_ne (tgt := 32) hx hb dX10_rule_26 (by decide) (fun q51 => ?_) (fun q51 => ?_)
    · exact absurd rfl q51
    refine lv_bipush (v := (-3)) hx hb dX10_rule_29 (by decide) ?_
    exact ret ((-3)) _ _ _ _ _ _ _ dX10_rule_31 hH ⟨⟨oI, oR, sm⟩, rfl, rfl, (Rg_w (Rg_c (x := (-3)) (a := (-3)) (b := (-3)) (by decide)) (by decide)), (by intro ru mru kru tj mtj ktj; obtain ⟨ga0, gb0⟩ := r2; obtain ⟨ga1, gb1⟩ := r5; have di0 : Int32.toInt (0) = 0 := (by decide); have di1 : Int32.toInt (1) = 1 := (by decide); have di2 : Int32.toInt (6) = 6 := (by decide); have di3 : Int32.toInt (50) = 50 := (by decide); have di4 : Int32.toInt (2000) = 2000 := (by decide); have di5 : Int32.toInt (10000) = 10000 := (by decide); obtain ⟨o1, o2, o3⟩ := rule_out (t := I ru 6) (show ¬ ruleOk x1 x2 x3 x4 by unfold ruleOk; omega); rw [o1, o2, o3]; exact ⟨rfl, rfl, rfl⟩), (hT.symm.trans hv)⟩
  replace hv := fnP hv rfl
  have l15 := hq10
  simp only [Int32.toInt_toInt64, show Int64.toInt (1) = 1 by decide, show Int64.toInt (50) = 50 by decide, show Int32.toInt (1) = 1 by decide, show Int32.toInt (50) = 50 by decide] at l15
  have l11 := hq10.1
  have r12 : Rg x3 (1) (2147483647) := Rg_lle (Rg_any x3) l11 (Rg_c (x := 1) (a := (1)) (b := (1)) (by decide)) (by decide)
  have l13 := hq10.2
  have r14 : Rg x3 (1) (50) := Rg_ule r12 l13 (Rg_c (x := 50) (a := (50)) (b := (50)) (by decide)) (by decide)
  refine lv_if_ne (tgt := 32) hx hb dX10_rule_26 (by decide) (fun q16 => ?_) (fun q16 => ?_)
  rotate_left
  · exact absurd q16 (by decide)
  refine lv_iload hx hb dX10_rule_32 (lv_at hl 4 rfl) ?_
  refine lv_if_lt (tgt := 61) hx hb dX10_rule_34 (by decide) (fun q17 => ?_) (fun q17 => ?_)
  · replace hv := fnP hv q17
    have l18 := Rg_lt q17
    have r19 : Rg x4 (-2147483648) (-1) := Rg_ult (Rg_any x4) (Rg_lt q17) (Rg_c (x := 0) (a := (0)) (b := (0)) (by decide)) (by decide)
    refine lv_bipush (v := (-3)) hx hb dX10_rule_61 (by decide) ?_
    exact ret ((-3)) _ _ _ _ _ _ _ dX10_rule_63 hH ⟨⟨oI, oR, sm⟩, rfl, rfl, (Rg_w (Rg_c (x := (-3)) (a := (-3)) (b := (-3)) (by decide)) (by decide)), (by intro ru mru kru tj mtj ktj; obtain ⟨ga0, gb0⟩ := r2; obtain ⟨ga1, gb1⟩ := r5; obtain ⟨ga2, gb2⟩ := r14; obtain ⟨ga3, gb3⟩ := r19; have di0 : Int32.toInt (0) = 0 := (by decide); have di1 : Int32.toInt (1) = 1 := (by decide); have di2 : Int32.toInt (6) = 6 := (by decide); have di3 : Int32.toInt (50) = 50 := (by decide); have di4 : Int32.toInt (2000) = 2000 := (by decide); have di5 : Int32.toInt (10000) = 10000 := (by decide); obtain ⟨o1, o2, o3⟩ := rule_out (t := I ru 6) (show ¬ ruleOk x1 x2 x3 x4 by unfold ruleOk; omega); rw [o1, o2, o3]; exact ⟨rfl, rfl, rfl⟩), (hT.symm.trans hv)⟩
  replace hv := fnN hv q17
  have l20 := Rg_nlt q17
  have r21 : Rg x4 (0) (2147483647) := Rg_lle (Rg_any x4) (Rg_nlt q17) (Rg_c (x := 0) (a := (0)) (b := (0)) (by decide)) (by decide)
  refine lv_iload hx hb dX10_rule_37 (lv_at hl 4 rfl) ?_
  refine lv_sipush (v := 10000) hx hb dX10_rule_39 (by decide) ?_
  refine lv_idiv hx hb dX10_rule_42 (by decide) ?_
  refine lv_topi (fun y22 ey22 => ?_)
  replace hv := fnS hv ey22
  obtain ⟨ty22, ry22⟩ := Rg_divx (a' := (0)) (b' := (214748)) (rfl : x4.toInt = _) (by decide : Int32.toInt 10000 = 10000) r21 (Rg_c (x := 10000) (a := (10000)) (b := (10000)) (by decide)) (by decide)
  rw [← ey22] at ty22 ry22
  refine lv_sipush (v := 2000) hx hb dX10_rule_43 (by decide) ?_
  refine lv_icmp_gt (tgt := 61) hx hb dX10_rule_46 (by decide) (fun q23 => ?_) (fun q23 => ?_)
  · replace hv := fnP hv q23
    have l24 := Rg_lt q23
    have r25 : Rg y22 (2001) (214748) := Rg_llt ry22 (Rg_lt q23) (Rg_c (x := 2000) (a := (2000)) (b := (2000)) (by decide)) (by decide)
    refine lv_bipush (v := (-3)) hx hb dX10_rule_61 (by decide) ?_
    exact ret ((-3)) _ _ _ _ _ _ _ dX10_rule_63 hH ⟨⟨oI, oR, sm⟩, rfl, rfl, (Rg_w (Rg_c (x := (-3)) (a := (-3)) (b := (-3)) (by decide)) (by decide)), (by intro ru mru kru tj mtj ktj; obtain ⟨ga0, gb0⟩ := r2; obtain ⟨ga1, gb1⟩ := r5; obtain ⟨ga2, gb2⟩ := r14; obtain ⟨ga3, gb3⟩ := r21; obtain ⟨ga4, gb4⟩ := r25; have di0 : Int32.toInt (0) = 0 := (by decide); have di1 : Int32.toInt (1) = 1 := (by decide); have di2 : Int32.toInt (6) = 6 := (by decide); have di3 : Int32.toInt (50) = 50 := (by decide); have di4 : Int32.toInt (2000) = 2000 := (by decide); have di5 : Int32.toInt (10000) = 10000 := (by decide); obtain ⟨o1, o2, o3⟩ := rule_out (t := I ru 6) (show ¬ ruleOk x1 x2 x3 x4 by unfold ruleOk; omega); rw [o1, o2, o3]; exact ⟨rfl, rfl, rfl⟩), (hT.symm.trans hv)⟩
  replace hv := fnN hv q23
  have l26 := Rg_nlt q23
  have r27 : Rg y22 (0) (2000) := Rg_ule ry22 (Rg_nlt q23) (Rg_c (x := 2000) (a := (2000)) (b := (2000)) (by decide)) (by decide)
  refine lv_iload hx hb dX10_rule_49 (lv_at hl 4 rfl) ?_
  refine lv_sipush (v := 10000) hx hb dX10_rule_51 (by decide) ?_
  refine lv_irem hx hb dX10_rule_54 (by decide) ?_
  refine lv_topi (fun y28 ey28 => ?_)
  replace hv := fnS hv ey28
  obtain ⟨ty28, ry28⟩ := Rg_remx (b' := (9999)) (rfl : x4.toInt = _) (by decide : Int32.toInt 10000 = 10000) r21 (Rg_c (x := 10000) (a := (10000)) (b := (10000)) (by decide)) (by decide)
  rw [← ey28] at ty28 ry28
  refine lv_sipush (v := 2000) hx hb dX10_rule_55 (by decide) ?_
  refine lv_icmp_le (tgt := 64) hx hb dX10_rule_58 (by decide) (fun q29 => ?_) (fun q29 => ?_)
  rotate_left
  · replace hv := fnN hv q29
    have l49 := Rg_nle q29
    have r50 : Rg y28 (2001) (9999) := Rg_llt ry28 (Rg_nle q29) (Rg_c (x := 2000) (a := (2000)) (b := (2000)) (by decide)) (by decide)
    refine lv_bipush (v := (-3)) hx hb dX10_rule_61 (by decide) ?_
    exact ret ((-3)) _ _ _ _ _ _ _ dX10_rule_63 hH ⟨⟨oI, oR, sm⟩, rfl, rfl, (Rg_w (Rg_c (x := (-3)) (a := (-3)) (b := (-3)) (by decide)) (by decide)), (by intro ru mru kru tj mtj ktj; obtain ⟨ga0, gb0⟩ := r2; obtain ⟨ga1, gb1⟩ := r5; obtain ⟨ga2, gb2⟩ := r14; obtain ⟨ga3, gb3⟩ := r21; obtain ⟨ga4, gb4⟩ := r27; obtain ⟨ga5, gb5⟩ := r50; have di0 : Int32.toInt (0) = 0 := (by decide); have di1 : Int32.toInt (1) = 1 := (by decide); have di2 : Int32.toInt (6) = 6 := (by decide); have di3 : Int32.toInt (50) = 50 := (by decide); have di4 : Int32.toInt (2000) = 2000 := (by decide); have di5 : Int32.toInt (10000) = 10000 := (by decide); obtain ⟨o1, o2, o3⟩ := rule_out (t := I ru 6) (show ¬ ruleOk x1 x2 x3 x4 by unfold ruleOk; omega); rw [o1, o2, o3]; exact ⟨rfl, rfl, rfl⟩), (hT.symm.trans hv)⟩
  replace hv := fnP hv q29
  have l30 := Rg_le q29
  have r31 : Rg y28 (0) (2000) := Rg_ule ry28 (Rg_le q29) (Rg_c (x := 2000) (a := (2000)) (b := (2000)) (by decide)) (by decide)
  refine lv_aload_n hx hb dX10_rule_64 rfl (lv_at hl 0 rfl) ?_
  obtain ⟨b32, mb32, vb32, kb32⟩ := rf_10_0 oR m0 k0
  replace hv := fnR hv vb32
  refine gf_10_0 vb32 hx hb hts hown hH m0 k0 rfl kf_X10_12 dX10_rule_65 ?_
  refine ca_X10_86 hx hb hml hown hts hH (c_X6_hasRoom oI oR mb32 kb32) hl.1 mb32 kb32 rfl (by decide) (Nat.le_of_ble_eq_true rfl) ⟨Nat.zero_le _, Nat.zero_le _⟩ dX10_rule_68 (fun y33 I33 J33 R33 H locs hp hH => ?_)
  obtain ⟨eI33, eJ33, eR33, ry33, hp33, hf33⟩ := hp
  obtain rfl : I = I33 := eI33.symm
  obtain rfl : J = J33 := eJ33.symm
  obtain rfl : R = R33 := eR33.symm
  replace hv := fnS hv hf33.symm
  rcases hp33 with ⟨rfl, hq33⟩ | ⟨rfl, hq33⟩
  rotate_left
  · replace hv := fnN hv (by decide)
    obtain ⟨y36, ey36⟩ : ∃ y : Int32, y = I b32 6 := ⟨_, rfl⟩
    replace hv := fnS hv ey36
    have ry36 : Rg y36 (0) (32) := by rw [ey36]; exact rf_6_6 oI mb32 kb32
    have r37 : Rg y36 (32) (32) := ⟨by rw [ey36]; exact hq33, ry36.2⟩
    refine lv_if_ne (tgt := 77) hx hb dX10_rule_71 (by decide) (fun q48 => ?_) (fun q48 => ?_)
    · exact absurd rfl q48
    refine lv_bipush (v := (-5)) hx hb dX10_rule_74 (by decide) ?_
    exact ret ((-5)) _ _ _ _ _ _ _ dX10_rule_76 hH ⟨⟨oI, oR, sm⟩, rfl, rfl, (Rg_w (Rg_c (x := (-5)) (a := (-5)) (b := (-5)) (by decide)) (by decide)), (by intro ru mru kru tj mtj ktj; obtain ⟨ga0, gb0⟩ := r2; obtain ⟨ga1, gb1⟩ := r5; obtain ⟨ga2, gb2⟩ := r14; obtain ⟨ga3, gb3⟩ := r21; obtain ⟨ga4, gb4⟩ := r27; obtain ⟨ga5, gb5⟩ := r31; have di0 : Int32.toInt (0) = 0 := (by decide); have di1 : Int32.toInt (1) = 1 := (by decide); have di2 : Int32.toInt (6) = 6 := (by decide); have di3 : Int32.toInt (50) = 50 := (by decide); have di4 : Int32.toInt (2000) = 2000 := (by decide); have di5 : Int32.toInt (10000) = 10000 := (by decide); rw [hU ru mru b32 mb32 (kru.trans kb32.symm) (by rw [kru]; rfl)]; obtain ⟨o1, o2, o3⟩ := rule_full (t := I b32 6) (show ruleOk x1 x2 x3 x4 by unfold ruleOk; omega) (by rw [← ey36]; have a1 := r37.1; omega); rw [o1, o2, o3]; exact ⟨rfl, rfl, rfl⟩), (hT.symm.trans hv)⟩
  replace hv := fnP hv rfl
  obtain ⟨y34, ey34⟩ : ∃ y : Int32, y = I b32 6 := ⟨_, rfl⟩
  replace hv := fnS hv ey34
  have ry34 : Rg y34 (0) (32) := by rw [ey34]; exact rf_6_6 oI mb32 kb32
  have r35 : Rg y34 (0) (31) := ⟨ry34.1, by rw [ey34]; exact hq33⟩
  refine lv_if_ne (tgt := 77) hx hb dX10_rule_71 (by decide) (fun q38 => ?_) (fun q38 => ?_)
  rotate_left
  · exact absurd q38 (by decide)
  refine lv_aload_n hx hb dX10_rule_77 rfl (lv_at hl 0 rfl) ?_
  obtain ⟨b39, mb39, vb39, kb39⟩ := rf_10_5 oR m0 k0
  replace hv := fnR hv vb39
  refine gf_10_5 vb39 hx hb hts hown hH m0 k0 rfl kf_X10_50 dX10_rule_78 ?_
  refine ca_X10_90 hx hb hml hown hts hH (c_X9_forgetAll oI oR mb39 kb39) hl.1 mb39 kb39 rfl (by decide) (Nat.le_of_ble_eq_true rfl) ⟨Nat.zero_le _, Nat.zero_le _⟩ dX10_rule_81 (fun I40 J40 R40 H locs hp hH => ?_)
  obtain ⟨⟨oI, -, sc40⟩, eJ40, eR40, hf40⟩ := hp
  obtain rfl : J = J40 := eJ40.symm
  obtain rfl : R = R40 := eR40.symm
  replace hv := fnW hv hf40
  have sm : Sm C ms_X10_rule (I, J, R) (I40, J, R) := sm.tr sc40 rfl
  refine lv_aload_n hx hb dX10_rule_84 rfl (lv_at hl 0 rfl) ?_
  refine gf_10_0 vb32 hx hb hts hown hH m0 k0 rfl kf_X10_12 dX10_rule_85 ?_
  refine lv_iload_n hx hb dX10_rule_88 rfl (lv_at hl 1 rfl) ?_
  refine lv_iload_n hx hb dX10_rule_89 rfl (lv_at hl 2 rfl) ?_
  refine lv_iload_n hx hb dX10_rule_90 rfl (lv_at hl 3 rfl) ?_
  refine lv_iload hx hb dX10_rule_91 (lv_at hl 4 rfl) ?_
  refine lv_sipush (v := 10000) hx hb dX10_rule_93 (by decide) ?_
  refine lv_idiv hx hb dX10_rule_96 (by decide) ?_
  refine lv_topi (fun y41 ey41 => ?_)
  obtain rfl : y22 = y41 := ey22.trans ey41.symm
  refine lv_sipush (v := 1000) hx hb dX10_rule_97 (by decide) ?_
  refine lv_isub hx hb dX10_rule_100 ?_
  refine lv_topi (fun y42 ey42 => ?_)
  replace hv := fnS hv ey42
  obtain ⟨ty42, ry42⟩ := Rg_subx (a' := (-1000)) (b' := (1000)) (rfl : y22.toInt = _) (by decide : Int32.toInt 1000 = 1000) r27 (Rg_c (x := 1000) (a := (1000)) (b := (1000)) (by decide)) (by decide)
  rw [← ey42] at ty42 ry42
  refine lv_iload hx hb dX10_rule_101 (lv_at hl 4 rfl) ?_
  refine lv_sipush (v := 10000) hx hb dX10_rule_103 (by decide) ?_
  refine lv_irem hx hb dX10_rule_106 (by decide) ?_
  refine lv_topi (fun y43 ey43 => ?_)
  obtain rfl : y28 = y43 := ey28.trans ey43.symm
  refine lv_sipush (v := 1000) hx hb dX10_rule_107 (by decide) ?_
  refine lv_isub hx hb dX10_rule_110 ?_
  refine lv_topi (fun y44 ey44 => ?_)
  replace hv := fnS hv ey44
  obtain ⟨ty44, ry44⟩ := Rg_subx (a' := (-1000)) (b' := (1000)) (rfl : y28.toInt = _) (by decide : Int32.toInt 1000 = 1000) r31 (Rg_c (x := 1000) (a := (1000)) (b := (1000)) (by decide)) (by decide)
  rw [← ey44] at ty44 ry44
  have f47 : I40 b32 (6) = I b32 (6) := ((sc40 b32 6 (by rw [kb32]; exact (by decide))).1)
  have f46 : y34 = I40 b32 (6) := ey34.trans f47.symm
  refine ca_X10_93 hx hb hml hown hts hH (c_X6_tell oI oR mb32 kb32 r2 r5 (Rg_w r14 (by decide)) ry42 ry44 (by rw [← f46]; exact Rg_w r35 (by decide)) (by assumption)) hl.1 mb32 kb32 rfl (by decide) (Nat.le_of_ble_eq_true rfl) ⟨Nat.zero_le _, Nat.zero_le _⟩ dX10_rule_111 (fun y45 I45 J45 R45 H locs hp hH => ?_)
  obtain ⟨⟨oI, -, sc45⟩, eJ45, eR45, ry45, hp45, hf45⟩ := hp
  obtain rfl : J = J45 := eJ45.symm
  obtain rfl : R = R45 := eR45.symm
  replace hv := fnC hv hf45
  have sm : Sm C ms_X10_rule (I, J, R) (I45, J, R) := sm.tr sc45 rfl
  exact ret (y45) _ _ _ _ _ _ _ dX10_rule_114 hH ⟨⟨oI, oR, sm⟩, rfl, rfl, (Rg_w ry45 (by decide)), (by intro ru mru kru tj mtj ktj; obtain ⟨ga0, gb0⟩ := r2; obtain ⟨ga1, gb1⟩ := r5; obtain ⟨ga2, gb2⟩ := r14; obtain ⟨ga3, gb3⟩ := r21; obtain ⟨ga4, gb4⟩ := r27; obtain ⟨ga5, gb5⟩ := r31; have di0 : Int32.toInt (0) = 0 := (by decide); have di1 : Int32.toInt (1) = 1 := (by decide); have di2 : Int32.toInt (6) = 6 := (by decide); have di3 : Int32.toInt (50) = 50 := (by decide); have di4 : Int32.toInt (2000) = 2000 := (by decide); have di5 : Int32.toInt (10000) = 10000 := (by decide); rw [hU ru mru b32 mb32 (kru.trans kb32.symm) (by rw [kru]; rfl)]; obtain ⟨o1, o2, o3⟩ := rule_ok (t := I b32 6) (show ruleOk x1 x2 x3 x4 by unfold ruleOk; omega) (by rw [← ey34]; exact r35.2); have h1 : I40 b32 6 = I b32 6 := (sc40 b32 6 (by rw [kb32]; decide)).1; have h2 : I40 tj = I tj := (funext fun k => (sc40 tj k (by rw [ktj]; exact nm_arr (by decide) rfl)).1); rw [o1, o2, o3]; exact ⟨hp45.1.trans h1, hp45.2.1.trans (by rw [h1]), (hp45.2.2 tj mtj ktj).trans (by rw [h1, h2])⟩), (hT.symm.trans hv)⟩
noncomputable def F_X10_drop (a0 : Nat) (x1 : Int32) (I : hI) (J : hJ) (R : hR) : Int32 × hU :=
  nm ((R a0 0).getD 0) fun b1 => nm (F_X6_canForget b1 x1 I J R) fun y2 => (if y2 = (1 : Int32) then nmW (F_X6_forget b1 x1 I J R) fun I5 _ _ => nm ((R a0 5).getD 0) fun b6 => nmW (F_X9_forgetAll b6 I5 J R) fun I7 _ _ => ((1 : Int32), (I7, J, R)) else ((-2 : Int32), (I, J, R)))
def ms_X10_drop : List Nat := [391, 2368, 2432, 2496, 2880]
set_option maxHeartbeats 4000000 in
set_option maxRecDepth 100000 in
theorem c_X10_drop {l : Launch} {D : va_G} {cy : Nat → ClassId} {L : List Nat} {C : Nat → Nat} {b0 : Nat} {I : hI} {J : hJ} {R : hR} {a0 : Nat} {x1 : Int32} (oI : OkI L C I) (oR : OkR L C R) (m0 : a0 ∈ L) (k0 : C a0 = 10) (hU : Uq L C) : CI l yX10_drop cX10_drop 2 .int 4 D cy L C b0 [.ref a0, .int x1] (I, J, R) (fun r v => Ps L C ms_X10_drop (I, J, R) v ∧ v.2.1 = J ∧ v.2.2 = R ∧ Rg r (-2) (1) ∧ (∀ ru ∈ L, C ru = 6 → ∀ tj ∈ L, C tj = 37 → r = dropR (I ru 6) (I tj) x1 ∧ v.1 tj = dropH (I ru 6) (I tj) x1) ∧ F_X10_drop a0 x1 I J R = (r, v)) := by
  refine CI.mkI (plainFor_of_name (by decide)) (Nat.le_of_ble_eq_true rfl) ?_
  intro p e s m args below meth c ls Q hF ret hH hl
  obtain ⟨hx, hb, -, hml, hown, hts, -⟩ := hF
  have hl : lv_has ls 2 [(0, .ref a0), (1, .int x1)] := hl
  have hH : Hp D cy L C b0 s s.heap I J R s.heap [] := hH
  have sm : Sm C ms_X10_drop (I, J, R) (I, J, R) := Sm.rf
  obtain ⟨TT0, hT⟩ : ∃ TT0, TT0 = F_X10_drop a0 x1 I J R := ⟨_, rfl⟩
  have hv := hT
  unfold F_X10_drop at hv
  refine lv_aload_n hx hb dX10_drop_0 rfl (lv_at hl 0 rfl) ?_
  obtain ⟨b1, mb1, vb1, kb1⟩ := rf_10_0 oR m0 k0
  replace hv := fnR hv vb1
  refine gf_10_0 vb1 hx hb hts hown hH m0 k0 rfl kf_X10_12 dX10_drop_1 ?_
  refine lv_iload_n hx hb dX10_drop_4 rfl (lv_at hl 1 rfl) ?_
  refine ca_X10_97 hx hb hml hown hts hH (c_X6_canForget oI oR mb1 kb1 (by assumption)) hl.1 mb1 kb1 rfl (by decide) (Nat.le_of_ble_eq_true rfl) ⟨Nat.zero_le _, Nat.zero_le _⟩ dX10_drop_5 (fun y2 I2 J2 R2 H locs hp hH => ?_)
  obtain ⟨eI2, eJ2, eR2, ry2, hp2, hf2⟩ := hp
  obtain rfl : I = I2 := eI2.symm
  obtain rfl : J = J2 := eJ2.symm
  obtain rfl : R = R2 := eR2.symm
  replace hv := fnS hv hf2.symm
  obtain ⟨tj2, mtj2, vtj2, ktj2⟩ := rf_6_5 oR mb1 kb1
  rcases hp2 tj2 mtj2 ktj2 with ⟨rfl, hq2⟩ | ⟨rfl, hq2⟩
  rotate_left
  · replace hv := fnN hv (by decide)
    refine lv_if_ne (tgt := 14) hx hb dX10_drop_8 (by decide) (fun q10 => ?_) (fun q10 => ?_)
    · exact absurd rfl q10
    refine lv_bipush (v := (-2)) hx hb dX10_drop_11 (by decide) ?_
    exact ret ((-2)) _ _ _ _ _ _ _ dX10_drop_13 hH ⟨⟨oI, oR, sm⟩, rfl, rfl, (Rg_w (Rg_c (x := (-2)) (a := (-2)) (b := (-2)) (by decide)) (by decide)), (by intro ru mru kru tk mtk ktk; rw [hU ru mru b1 mb1 (kru.trans kb1.symm) (by rw [kru]; rfl), hU tk mtk tj2 mtj2 (ktk.trans ktj2.symm) (by rw [ktk]; rfl)]; obtain ⟨o1, o2⟩ := drop_no hq2; rw [o1, o2]; exact ⟨rfl, rfl⟩), (hT.symm.trans hv)⟩
  replace hv := fnP hv rfl
  have r3 : Rg x1 (12) (31) := ⟨hq2.1, hq2.2.1⟩
  refine lv_if_ne (tgt := 14) hx hb dX10_drop_8 (by decide) (fun q4 => ?_) (fun q4 => ?_)
  rotate_left
  · exact absurd q4 (by decide)
  refine lv_aload_n hx hb dX10_drop_14 rfl (lv_at hl 0 rfl) ?_
  refine gf_10_0 vb1 hx hb hts hown hH m0 k0 rfl kf_X10_12 dX10_drop_15 ?_
  refine lv_iload_n hx hb dX10_drop_18 rfl (lv_at hl 1 rfl) ?_
  refine ca_X10_100 hx hb hml hown hts hH (c_X6_forget oI oR mb1 kb1 r3 (by assumption)) hl.1 mb1 kb1 rfl (by decide) (Nat.le_of_ble_eq_true rfl) ⟨Nat.zero_le _, Nat.zero_le _⟩ dX10_drop_19 (fun I5 J5 R5 H locs hp hH => ?_)
  obtain ⟨⟨oI, -, sc5⟩, eJ5, eR5, hp5, hf5⟩ := hp
  obtain rfl : J = J5 := eJ5.symm
  obtain rfl : R = R5 := eR5.symm
  replace hv := fnW hv hf5
  have sm : Sm C ms_X10_drop (I, J, R) (I5, J, R) := sm.tr sc5 rfl
  refine lv_aload_n hx hb dX10_drop_22 rfl (lv_at hl 0 rfl) ?_
  obtain ⟨b6, mb6, vb6, kb6⟩ := rf_10_5 oR m0 k0
  replace hv := fnR hv vb6
  refine gf_10_5 vb6 hx hb hts hown hH m0 k0 rfl kf_X10_50 dX10_drop_23 ?_
  refine ca_X10_90 hx hb hml hown hts hH (c_X9_forgetAll oI oR mb6 kb6) hl.1 mb6 kb6 rfl (by decide) (Nat.le_of_ble_eq_true rfl) ⟨Nat.zero_le _, Nat.zero_le _⟩ dX10_drop_26 (fun I7 J7 R7 H locs hp hH => ?_)
  obtain ⟨⟨oI, -, sc7⟩, eJ7, eR7, hf7⟩ := hp
  obtain rfl : J = J7 := eJ7.symm
  obtain rfl : R = R7 := eR7.symm
  replace hv := fnW hv hf7
  have sm : Sm C ms_X10_drop (I, J, R) (I7, J, R) := sm.tr sc7 rfl
  refine lv_iconst (v := 1) hx hb dX10_drop_29 (by decide) ?_
  exact ret (1) _ _ _ _ _ _ _ dX10_drop_30 hH ⟨⟨oI, oR, sm⟩, rfl, rfl, (Rg_w (Rg_c (x := 1) (a := (1)) (b := (1)) (by decide)) (by decide)), (by intro ru mru kru tk mtk ktk; rw [hU ru mru b1 mb1 (kru.trans kb1.symm) (by rw [kru]; rfl), hU tk mtk tj2 mtj2 (ktk.trans ktj2.symm) (by rw [ktk]; rfl)]; obtain ⟨o1, o2⟩ := drop_ok hq2.2.2; rw [o1, o2]; refine ⟨rfl, ?_⟩; show I7 tj2 = _; have s8 : I5 tj2 = _ := hp5 tj2 mtj2 ktj2; have s9 : I7 tj2 = I5 tj2 := (funext fun k => (sc7 tj2 k (by rw [ktj2]; exact nm_arr (by decide) rfl)).1); rw [s9, s8]), (hT.symm.trans hv)⟩
set_option maxHeartbeats 4000000 in
set_option maxRecDepth 100000 in
theorem c_X10_turning {l : Launch} {D : va_G} {cy : Nat → ClassId} {L : List Nat} {C : Nat → Nat} {b0 : Nat} {I : hI} {J : hJ} {R : hR} {a0 : Nat} {x1 : Int32} {x2 : Int32} {x3 : Int32} (oI : OkI L C I) (oR : OkR L C R) (m0 : a0 ∈ L) (k0 : C a0 = 10) : CI l yX10_turning cX10_turning 5 .int 2 D cy L C b0 [.ref a0, .int x1, .int x2, .int x3] (I, J, R) (fun r v => v.1 = I ∧ v.2.1 = J ∧ v.2.2 = R) := by
  refine CI.mkI (plainFor_of_name (by decide)) (Nat.le_of_ble_eq_true rfl) ?_
  intro p e s m args below meth c ls Q hF ret hH hl
  obtain ⟨hx, hb, -, hml, hown, hts, -⟩ := hF
  have hl : lv_has ls 5 [(0, .ref a0), (1, .int x1), (2, .int x2), (3, .int x3)] := hl
  have hH : Hp D cy L C b0 s s.heap I J R s.heap [] := hH
  refine lv_iload_n hx hb dX10_turning_0 rfl (lv_at hl 1 rfl) ?_
  refine ca_X10_78 hx hb hml hown hts hH (c_X10_isSort ) hl.1 (by decide) (Nat.le_of_ble_eq_true rfl) ⟨Nat.zero_le _, Nat.zero_le _⟩ dX10_turning_1 (fun y1 I1 J1 R1 H locs hp hH => ?_)
  obtain ⟨eI1, eJ1, eR1, ry1, hp1, hf1⟩ := hp
  obtain rfl : I = I1 := eI1.symm
  obtain rfl : J = J1 := eJ1.symm
  obtain rfl : R = R1 := eR1.symm
  rcases hp1 with ⟨rfl, hq1⟩ | ⟨rfl, hq1⟩
  rotate_left
  · refine lv_if_eq (tgt := 18) hx hb dX10_turning_4 (by decide) (fun q32 => ?_) (fun q32 => ?_)
    rotate_left
    · exact absurd rfl q32
    refine lv_bipush (v := (-3)) hx hb dX10_turning_18 (by decide) ?_
    exact ret ((-3)) _ _ _ _ _ _ _ dX10_turning_20 hH ⟨rfl, rfl, rfl⟩
  have r2 : Rg x1 (0) (6) := ⟨by have h9 := (Rg_any x1).1; omega, by have h9 := (Rg_any x1).2; omega⟩
  refine lv_if_eq (tgt := 18) hx hb dX10_turning_4 (by decide) (fun q3 => ?_) (fun q3 => ?_)
  · exact absurd q3 (by decide)
  refine lv_iload_n hx hb dX10_turning_7 rfl (lv_at hl 2 rfl) ?_
  refine ca_X10_78 hx hb hml hown hts hH (c_X10_isSort ) hl.1 (by decide) (Nat.le_of_ble_eq_true rfl) ⟨Nat.zero_le _, Nat.zero_le _⟩ dX10_turning_8 (fun y4 I4 J4 R4 H locs hp hH => ?_)
  obtain ⟨eI4, eJ4, eR4, ry4, hp4, hf4⟩ := hp
  obtain rfl : I = I4 := eI4.symm
  obtain rfl : J = J4 := eJ4.symm
  obtain rfl : R = R4 := eR4.symm
  rcases hp4 with ⟨rfl, hq4⟩ | ⟨rfl, hq4⟩
  rotate_left
  · refine lv_if_eq (tgt := 18) hx hb dX10_turning_11 (by decide) (fun q31 => ?_) (fun q31 => ?_)
    rotate_left
    · exact absurd rfl q31
    refine lv_bipush (v := (-3)) hx hb dX10_turning_18 (by decide) ?_
    exact ret ((-3)) _ _ _ _ _ _ _ dX10_turning_20 hH ⟨rfl, rfl, rfl⟩
  have r5 : Rg x2 (0) (6) := ⟨by have h9 := (Rg_any x2).1; omega, by have h9 := (Rg_any x2).2; omega⟩
  refine lv_if_eq (tgt := 18) hx hb dX10_turning_11 (by decide) (fun q6 => ?_) (fun q6 => ?_)
  · exact absurd q6 (by decide)
  refine lv_iload_n hx hb dX10_turning_14 rfl (lv_at hl 3 rfl) ?_
  refine lv_if_ge (tgt := 21) hx hb dX10_turning_15 (by decide) (fun q7 => ?_) (fun q7 => ?_)
  rotate_left
  · have l29 := Rg_nle q7
    have r30 : Rg x3 (-2147483648) (-1) := Rg_ult (Rg_any x3) (Rg_nle q7) (Rg_c (x := 0) (a := (0)) (b := (0)) (by decide)) (by decide)
    refine lv_bipush (v := (-3)) hx hb dX10_turning_18 (by decide) ?_
    exact ret ((-3)) _ _ _ _ _ _ _ dX10_turning_20 hH ⟨rfl, rfl, rfl⟩
  have l8 := Rg_le q7
  have r9 : Rg x3 (0) (2147483647) := Rg_lle (Rg_any x3) (Rg_le q7) (Rg_c (x := 0) (a := (0)) (b := (0)) (by decide)) (by decide)
  refine lv_aload_n hx hb dX10_turning_21 rfl (lv_at hl 0 rfl) ?_
  obtain ⟨b10, mb10, vb10, kb10⟩ := rf_10_0 oR m0 k0
  refine gf_10_0 vb10 hx hb hts hown hH m0 k0 rfl kf_X10_12 dX10_turning_22 ?_
  refine lv_iload_n hx hb dX10_turning_25 rfl (lv_at hl 1 rfl) ?_
  refine lv_iload_n hx hb dX10_turning_26 rfl (lv_at hl 2 rfl) ?_
  refine ca_X10_104 hx hb hml hown hts hH (c_X6_costBetween oI oR mb10 kb10 r2 r5) hl.1 mb10 kb10 rfl (by decide) (Nat.le_of_ble_eq_true rfl) ⟨Nat.zero_le _, Nat.zero_le _⟩ dX10_turning_27 (fun y11 I11 J11 R11 H locs hp hH => ?_)
  obtain ⟨eI11, eJ11, eR11, hf11⟩ := hp
  obtain rfl : I = I11 := eI11.symm
  obtain rfl : J = J11 := eJ11.symm
  obtain rfl : R = R11 := eR11.symm
  refine lv_istore (lv' := [(4, .int y11), (0, .ref a0), (1, .int x1), (2, .int x2), (3, .int x3)]) hx hb dX10_turning_30 hl (by decide) rfl (fun ls hl => ?_)
  refine lv_iload_n hx hb dX10_turning_32 rfl (lv_at hl 4 rfl) ?_
  refine lv_if_eq (tgt := 42) hx hb dX10_turning_33 (by decide) (fun q12 => ?_) (fun q12 => ?_)
  · have l13 := congrArg Int32.toInt q12
    have r14 : Rg x3 (0) (0) := Rg_both r9 (Rg_eqv q12 (Rg_c (x := 0) (a := (0)) (b := (0)) (by decide))) (by decide)
    refine lv_iload hx hb dX10_turning_42 (lv_at hl 0 rfl) ?_
    exact ret (y11) _ _ _ _ _ _ _ dX10_turning_44 hH ⟨rfl, rfl, rfl⟩
  have l15 := Rg_ne q12
  have r16 : Rg x3 (1) (2147483647) := Rg_nelo r9 (Rg_ne q12) (Rg_c (x := 0) (a := (0)) (b := (0)) (by decide)) (by decide)
  refine lv_iload hx hb dX10_turning_36 (lv_at hl 0 rfl) ?_
  refine lv_iconst (v := (-1)) hx hb dX10_turning_38 (by decide) ?_
  refine lv_icmp_ne (tgt := 45) hx hb dX10_turning_39 (by decide) (fun q17 => ?_) (fun q17 => ?_)
  rotate_left
  · have l27 := congrArg Int32.toInt q17
    have r28 : Rg y11 (-1) (-1) := Rg_both (Rg_any y11) (Rg_eqv q17 (Rg_c (x := (-1)) (a := (-1)) (b := (-1)) (by decide))) (by decide)
    refine lv_iload hx hb dX10_turning_42 (lv_at hl 0 rfl) ?_
    exact ret (y11) _ _ _ _ _ _ _ dX10_turning_44 hH ⟨rfl, rfl, rfl⟩
  have l18 := Rg_ne q17
  refine lv_iload_n hx hb dX10_turning_45 rfl (lv_at hl 4 rfl) ?_
  refine lv_iconst (v := 1) hx hb dX10_turning_46 (by decide) ?_
  refine lv_icmp_ne (tgt := 62) hx hb dX10_turning_47 (by decide) (fun q19 => ?_) (fun q19 => ?_)
  rotate_left
  · have l24 := congrArg Int32.toInt q19
    have r25 : Rg x3 (1) (1) := Rg_both r16 (Rg_eqv q19 (Rg_c (x := 1) (a := (1)) (b := (1)) (by decide))) (by decide)
    refine lv_aload_n hx hb dX10_turning_50 rfl (lv_at hl 1 rfl) ?_
    refine gf_10_0 vb10 hx hb hts hown hH m0 k0 rfl kf_X10_12 dX10_turning_51 ?_
    refine lv_iload_n hx hb dX10_turning_54 rfl (lv_at hl 2 rfl) ?_
    refine lv_iload_n hx hb dX10_turning_55 rfl (lv_at hl 3 rfl) ?_
    refine ca_X10_108 hx hb hml hown hts hH (c_X6_stepsBetween oI oR mb10 kb10 r2 r5) hl.1 mb10 kb10 rfl (by decide) (Nat.le_of_ble_eq_true rfl) ⟨Nat.zero_le _, Nat.zero_le _⟩ dX10_turning_56 (fun y26 I26 J26 R26 H locs hp hH => ?_)
    obtain ⟨eI26, eJ26, eR26, hf26⟩ := hp
    obtain rfl : I = I26 := eI26.symm
    obtain rfl : J = J26 := eJ26.symm
    obtain rfl : R = R26 := eR26.symm
    refine lv_goto (tgt := 74) hx hb dX10_turning_59 (by decide) ?_
    exact ret (y26) _ _ _ _ _ _ _ dX10_turning_74 hH ⟨rfl, rfl, rfl⟩
  have l20 := Rg_ne q19
  have r21 : Rg x3 (2) (2147483647) := Rg_nelo r16 (Rg_ne q19) (Rg_c (x := 1) (a := (1)) (b := (1)) (by decide)) (by decide)
  refine lv_aload_n hx hb dX10_turning_62 rfl (lv_at hl 1 rfl) ?_
  refine gf_10_0 vb10 hx hb hts hown hH m0 k0 rfl kf_X10_12 dX10_turning_63 ?_
  refine lv_iload_n hx hb dX10_turning_66 rfl (lv_at hl 2 rfl) ?_
  refine lv_iload_n hx hb dX10_turning_67 rfl (lv_at hl 3 rfl) ?_
  refine lv_iload_n hx hb dX10_turning_68 rfl (lv_at hl 4 rfl) ?_
  refine lv_iconst (v := 2) hx hb dX10_turning_69 (by decide) ?_
  refine lv_isub hx hb dX10_turning_70 ?_
  refine lv_topi (fun y22 ey22 => ?_)
  obtain ⟨ty22, ry22⟩ := Rg_subx (a' := (0)) (b' := (2147483645)) (rfl : x3.toInt = _) (by decide : Int32.toInt 2 = 2) r21 (Rg_c (x := 2) (a := (2)) (b := (2)) (by decide)) (by decide)
  rw [← ey22] at ty22 ry22
  refine ca_X10_111 hx hb hml hown hts hH (c_X6_stepAt oI oR mb10 kb10 r2 r5) hl.1 mb10 kb10 rfl (by decide) (Nat.le_of_ble_eq_true rfl) ⟨Nat.zero_le _, Nat.zero_le _⟩ dX10_turning_71 (fun y23 I23 J23 R23 H locs hp hH => ?_)
  obtain ⟨eI23, eJ23, eR23, ry23, hf23⟩ := hp
  obtain rfl : I = I23 := eI23.symm
  obtain rfl : J = J23 := eJ23.symm
  obtain rfl : R = R23 := eR23.symm
  exact ret (y23) _ _ _ _ _ _ _ dX10_turning_74 hH ⟨rfl, rfl, rfl⟩
noncomputable def F_X10_turn (a0 : Nat) (x1 : Int32) (x2 : Int32) (x3 : Int64) (I : hI) (J : hJ) (R : hR) : Int32 × hU :=
  nm (F_X10_isSort x1) fun y1 => (if y1 = (1 : Int32) then nm (F_X10_isSort x2) fun y4 => (if y4 = (1 : Int32) then nm ((R a0 0).getD 0) fun b7 => nm (F_X6_costBetween b7 x1 x2 I J R) fun y8 => (if y8 = (-1 : Int32) then ((-1 : Int32), (I, J, R)) else nm (F_X10_isOf x1 x3) fun y11 => (if y11 = (0 : Int32) then nm ((R a0 7).getD 0) fun b29 => nmW (F_X4_noteFailure b29 (0 : Int32) (-1 : Int32) I J R) fun I30 _ _ => ((-7 : Int32), (I30, J, R)) else nmU (F_X6_carry b7 x1 x2 x3 I J R) fun y15 I15 J15 _ => (if y15 = (0 : Int32) then nm ((R a0 7).getD 0) fun b24 => nm (I15 b7 11) fun y25 => nmW (F_X4_noteFailure b24 (1 : Int32) y25 I15 J15 R) fun I26 _ _ => ((-7 : Int32), (I26, J15, R)) else nm ((R a0 7).getD 0) fun b19 => nm (J15 b7 10) fun w20 => nm (u2 J15 b19 0 w20) fun J21 => ((0 : Int32), (I15, J21, R))))) else ((-3 : Int32), (I, J, R))) else ((-3 : Int32), (I, J, R)))
def ms_X10_turn : List Nat := [256, 257, 258, 394, 395]
set_option maxHeartbeats 4000000 in
set_option maxRecDepth 100000 in
theorem c_X10_turn {l : Launch} {D : va_G} {cy : Nat → ClassId} {L : List Nat} {C : Nat → Nat} {b0 : Nat} {I : hI} {J : hJ} {R : hR} {a0 : Nat} {x1 : Int32} {x2 : Int32} {x3 : Int64} (oI : OkI L C I) (oR : OkR L C R) (m0 : a0 ∈ L) (k0 : C a0 = 10) : CI l yX10_turn cX10_turn 5 .int 3 D cy L C b0 [.ref a0, .int x1, .int x2, .long x3] (I, J, R) (fun r v => Ps L C ms_X10_turn (I, J, R) v ∧ v.2.2 = R ∧ Rg r (-7) (0) ∧ F_X10_turn a0 x1 x2 x3 I J R = (r, v)) := by
  refine CI.mkI (plainFor_of_name (by decide)) (Nat.le_of_ble_eq_true rfl) ?_
  intro p e s m args below meth c ls Q hF ret hH hl
  obtain ⟨hx, hb, -, hml, hown, hts, -⟩ := hF
  have hl : lv_has ls 5 [(0, .ref a0), (1, .int x1), (2, .int x2), (3, .long x3)] := hl
  have hH : Hp D cy L C b0 s s.heap I J R s.heap [] := hH
  have sm : Sm C ms_X10_turn (I, J, R) (I, J, R) := Sm.rf
  obtain ⟨TT0, hT⟩ : ∃ TT0, TT0 = F_X10_turn a0 x1 x2 x3 I J R := ⟨_, rfl⟩
  have hv := hT
  unfold F_X10_turn at hv
  refine lv_iload_n hx hb dX10_turn_0 rfl (lv_at hl 1 rfl) ?_
  refine ca_X10_78 hx hb hml hown hts hH (c_X10_isSort ) hl.1 (by decide) (Nat.le_of_ble_eq_true rfl) ⟨Nat.zero_le _, Nat.zero_le _⟩ dX10_turn_1 (fun y1 I1 J1 R1 H locs hp hH => ?_)
  obtain ⟨eI1, eJ1, eR1, ry1, hp1, hf1⟩ := hp
  obtain rfl : I = I1 := eI1.symm
  obtain rfl : J = J1 := eJ1.symm
  obtain rfl : R = R1 := eR1.symm
  replace hv := fnS hv hf1.symm
  rcases hp1 with ⟨rfl, hq1⟩ | ⟨rfl, hq1⟩
  rotate_left
  · replace hv := fnN hv (by decide)
    refine lv_if_eq (tgt := 14) hx hb dX10_turn_4 (by decide) (fun q34 => ?_) (fun q34 => ?_)
    rotate_left
    · exact absurd rfl q34
    refine lv_bipush (v := (-3)) hx hb dX10_turn_14 (by decide) ?_
    exact ret ((-3)) _ _ _ _ _ _ _ dX10_turn_16 hH ⟨⟨oI, oR, sm⟩, rfl, (Rg_w (Rg_c (x := (-3)) (a := (-3)) (b := (-3)) (by decide)) (by decide)), (hT.symm.trans hv)⟩
  replace hv := fnP hv rfl
  have r2 : Rg x1 (0) (6) := ⟨by have h9 := (Rg_any x1).1; omega, by have h9 := (Rg_any x1).2; omega⟩
  refine lv_if_eq (tgt := 14) hx hb dX10_turn_4 (by decide) (fun q3 => ?_) (fun q3 => ?_)
  · exact absurd q3 (by decide)
  refine lv_iload_n hx hb dX10_turn_7 rfl (lv_at hl 2 rfl) ?_
  refine ca_X10_78 hx hb hml hown hts hH (c_X10_isSort ) hl.1 (by decide) (Nat.le_of_ble_eq_true rfl) ⟨Nat.zero_le _, Nat.zero_le _⟩ dX10_turn_8 (fun y4 I4 J4 R4 H locs hp hH => ?_)
  obtain ⟨eI4, eJ4, eR4, ry4, hp4, hf4⟩ := hp
  obtain rfl : I = I4 := eI4.symm
  obtain rfl : J = J4 := eJ4.symm
  obtain rfl : R = R4 := eR4.symm
  replace hv := fnS hv hf4.symm
  rcases hp4 with ⟨rfl, hq4⟩ | ⟨rfl, hq4⟩
  rotate_left
  · replace hv := fnN hv (by decide)
    refine lv_if_ne (tgt := 17) hx hb dX10_turn_11 (by decide) (fun q33 => ?_) (fun q33 => ?_)
    · exact absurd rfl q33
    refine lv_bipush (v := (-3)) hx hb dX10_turn_14 (by decide) ?_
    exact ret ((-3)) _ _ _ _ _ _ _ dX10_turn_16 hH ⟨⟨oI, oR, sm⟩, rfl, (Rg_w (Rg_c (x := (-3)) (a := (-3)) (b := (-3)) (by decide)) (by decide)), (hT.symm.trans hv)⟩
  replace hv := fnP hv rfl
  have r5 : Rg x2 (0) (6) := ⟨by have h9 := (Rg_any x2).1; omega, by have h9 := (Rg_any x2).2; omega⟩
  refine lv_if_ne (tgt := 17) hx hb dX10_turn_11 (by decide) (fun q6 => ?_) (fun q6 => ?_)
  rotate_left
  · exact absurd q6 (by decide)
  refine lv_aload_n hx hb dX10_turn_17 rfl (lv_at hl 0 rfl) ?_
  obtain ⟨b7, mb7, vb7, kb7⟩ := rf_10_0 oR m0 k0
  replace hv := fnR hv vb7
  refine gf_10_0 vb7 hx hb hts hown hH m0 k0 rfl kf_X10_12 dX10_turn_18 ?_
  refine lv_iload_n hx hb dX10_turn_21 rfl (lv_at hl 1 rfl) ?_
  refine lv_iload_n hx hb dX10_turn_22 rfl (lv_at hl 2 rfl) ?_
  refine ca_X10_104 hx hb hml hown hts hH (c_X6_costBetween oI oR mb7 kb7 r2 r5) hl.1 mb7 kb7 rfl (by decide) (Nat.le_of_ble_eq_true rfl) ⟨Nat.zero_le _, Nat.zero_le _⟩ dX10_turn_23 (fun y8 I8 J8 R8 H locs hp hH => ?_)
  obtain ⟨eI8, eJ8, eR8, hf8⟩ := hp
  obtain rfl : I = I8 := eI8.symm
  obtain rfl : J = J8 := eJ8.symm
  obtain rfl : R = R8 := eR8.symm
  replace hv := fnS hv hf8.symm
  refine lv_iconst (v := (-1)) hx hb dX10_turn_26 (by decide) ?_
  refine lv_icmp_ne (tgt := 32) hx hb dX10_turn_27 (by decide) (fun q9 => ?_) (fun q9 => ?_)
  rotate_left
  · replace hv := fnP hv q9
    have l31 := congrArg Int32.toInt q9
    have r32 : Rg y8 (-1) (-1) := Rg_both (Rg_any y8) (Rg_eqv q9 (Rg_c (x := (-1)) (a := (-1)) (b := (-1)) (by decide))) (by decide)
    refine lv_iconst (v := (-1)) hx hb dX10_turn_30 (by decide) ?_
    exact ret ((-1)) _ _ _ _ _ _ _ dX10_turn_31 hH ⟨⟨oI, oR, sm⟩, rfl, (Rg_w (Rg_c (x := (-1)) (a := (-1)) (b := (-1)) (by decide)) (by decide)), (hT.symm.trans hv)⟩
  replace hv := fnN hv q9
  have l10 := Rg_ne q9
  refine lv_iload_n hx hb dX10_turn_32 rfl (lv_at hl 1 rfl) ?_
  refine lv_lload_n hx hb dX10_turn_33 rfl (lv_at hl 3 rfl) ?_
  refine ca_X10_115 hx hb hml hown hts hH (c_X10_isOf r2) hl.1 (by decide) (Nat.le_of_ble_eq_true rfl) ⟨Nat.zero_le _, Nat.zero_le _⟩ dX10_turn_34 (fun y11 I11 J11 R11 H locs hp hH => ?_)
  obtain ⟨eI11, eJ11, eR11, ry11, hp11, hf11⟩ := hp
  obtain rfl : I = I11 := eI11.symm
  obtain rfl : J = J11 := eJ11.symm
  obtain rfl : R = R11 := eR11.symm
  replace hv := fnS hv hf11.symm
  refine lv_if_ne (tgt := 52) hx hb dX10_turn_37 (by decide) (fun q12 => ?_) (fun q12 => ?_)
  rotate_left
  · replace hv := fnP hv q12
    have l27 := congrArg Int32.toInt q12
    have r28 : Rg y11 (0) (0) := Rg_both ry11 (Rg_eqv q12 (Rg_c (x := 0) (a := (0)) (b := (0)) (by decide))) (by decide)
    refine lv_aload_n hx hb dX10_turn_40 rfl (lv_at hl 0 rfl) ?_
    obtain ⟨b29, mb29, vb29, kb29⟩ := rf_10_7 oR m0 k0
    replace hv := fnR hv vb29
    refine gf_10_7 vb29 hx hb hts hown hH m0 k0 rfl kf_X10_64 dX10_turn_41 ?_
    refine lv_iconst (v := 0) hx hb dX10_turn_44 (by decide) ?_
    refine lv_iconst (v := (-1)) hx hb dX10_turn_45 (by decide) ?_
    refine ca_X10_119 hx hb hml hown hts hH (c_X4_noteFailure oI oR mb29 kb29) hl.1 mb29 kb29 rfl (by decide) (Nat.le_of_ble_eq_true rfl) ⟨Nat.zero_le _, Nat.zero_le _⟩ dX10_turn_46 (fun I30 J30 R30 H locs hp hH => ?_)
    obtain ⟨⟨oI, -, sc30⟩, eJ30, eR30, hf30⟩ := hp
    obtain rfl : J = J30 := eJ30.symm
    obtain rfl : R = R30 := eR30.symm
    replace hv := fnW hv hf30
    have sm : Sm C ms_X10_turn (I, J, R) (I30, J, R) := sm.tr sc30 rfl
    refine lv_bipush (v := (-7)) hx hb dX10_turn_49 (by decide) ?_
    exact ret ((-7)) _ _ _ _ _ _ _ dX10_turn_51 hH ⟨⟨oI, oR, sm⟩, rfl, (Rg_w (Rg_c (x := (-7)) (a := (-7)) (b := (-7)) (by decide)) (by decide)), (hT.symm.trans hv)⟩
  replace hv := fnN hv q12
  have l13 := Rg_ne q12
  have r14 : Rg y11 (1) (1) := Rg_nelo ry11 (Rg_ne q12) (Rg_c (x := 0) (a := (0)) (b := (0)) (by decide)) (by decide)
  refine lv_aload_n hx hb dX10_turn_52 rfl (lv_at hl 0 rfl) ?_
  refine gf_10_0 vb7 hx hb hts hown hH m0 k0 rfl kf_X10_12 dX10_turn_53 ?_
  refine lv_iload_n hx hb dX10_turn_56 rfl (lv_at hl 1 rfl) ?_
  refine lv_iload_n hx hb dX10_turn_57 rfl (lv_at hl 2 rfl) ?_
  refine lv_lload_n hx hb dX10_turn_58 rfl (lv_at hl 3 rfl) ?_
  refine ca_X10_123 hx hb hml hown hts hH (c_X6_carry oI oR mb7 kb7 r2 r5) hl.1 mb7 kb7 rfl (by decide) (Nat.le_of_ble_eq_true rfl) ⟨Nat.zero_le _, Nat.zero_le _⟩ dX10_turn_59 (fun y15 I15 J15 R15 H locs hp hH => ?_)
  obtain ⟨⟨oI, -, sc15⟩, eR15, ry15, hf15⟩ := hp
  obtain rfl : R = R15 := eR15.symm
  replace hv := fnC hv hf15
  have sm : Sm C ms_X10_turn (I, J, R) (I15, J15, R) := sm.tr sc15 rfl
  refine lv_if_ne (tgt := 83) hx hb dX10_turn_62 (by decide) (fun q16 => ?_) (fun q16 => ?_)
  · replace hv := fnN hv q16
    have l17 := Rg_ne q16
    have r18 : Rg y15 (1) (1) := Rg_nelo ry15 (Rg_ne q16) (Rg_c (x := 0) (a := (0)) (b := (0)) (by decide)) (by decide)
    refine lv_aload_n hx hb dX10_turn_83 rfl (lv_at hl 0 rfl) ?_
    obtain ⟨b19, mb19, vb19, kb19⟩ := rf_10_7 oR m0 k0
    replace hv := fnR hv vb19
    refine gf_10_7 vb19 hx hb hts hown hH m0 k0 rfl kf_X10_64 dX10_turn_84 ?_
    refine lv_aload_n hx hb dX10_turn_87 rfl (lv_at hl 0 rfl) ?_
    refine gf_10_0 vb7 hx hb hts hown hH m0 k0 rfl kf_X10_12 dX10_turn_88 ?_
    refine gf_6_10 hx hb hts hown hH mb7 kb7 rfl kf_X10_131 dX10_turn_91 ?_
    refine lv_topl (fun w20 ew20 => ?_)
    replace hv := fnS hv ew20
    refine pf_4_0 hx hb hts hown hH mb19 kb19 rfl kf_X10_135 dX10_turn_94 (fun J21 H locs eJ21 hH => ?_)
    replace hv := fnS hv eJ21
    have sm : Sm C ms_X10_turn (I, J, R) (I15, J21, R) := by rw [eJ21]; exact sm.stJ kb19 (mC_obj (by decide) rfl)
    refine lv_iconst (v := 0) hx hb dX10_turn_97 (by decide) ?_
    exact ret (0) _ _ _ _ _ _ _ dX10_turn_98 hH ⟨⟨oI, oR, sm⟩, rfl, (Rg_w (Rg_c (x := 0) (a := (0)) (b := (0)) (by decide)) (by decide)), (hT.symm.trans hv)⟩
  replace hv := fnP hv q16
  have l22 := congrArg Int32.toInt q16
  have r23 : Rg y15 (0) (0) := Rg_both ry15 (Rg_eqv q16 (Rg_c (x := 0) (a := (0)) (b := (0)) (by decide))) (by decide)
  refine lv_aload_n hx hb dX10_turn_65 rfl (lv_at hl 0 rfl) ?_
  obtain ⟨b24, mb24, vb24, kb24⟩ := rf_10_7 oR m0 k0
  replace hv := fnR hv vb24
  refine gf_10_7 vb24 hx hb hts hown hH m0 k0 rfl kf_X10_64 dX10_turn_66 ?_
  refine lv_iconst (v := 1) hx hb dX10_turn_69 (by decide) ?_
  refine lv_aload_n hx hb dX10_turn_70 rfl (lv_at hl 0 rfl) ?_
  refine gf_10_0 vb7 hx hb hts hown hH m0 k0 rfl kf_X10_12 dX10_turn_71 ?_
  refine gf_6_11 hx hb hts hown hH mb7 kb7 rfl kf_X10_127 dX10_turn_74 ?_
  refine lv_topi (fun y25 ey25 => ?_)
  replace hv := fnS hv ey25
  refine ca_X10_119 hx hb hml hown hts hH (c_X4_noteFailure oI oR mb24 kb24) hl.1 mb24 kb24 rfl (by decide) (Nat.le_of_ble_eq_true rfl) ⟨Nat.zero_le _, Nat.zero_le _⟩ dX10_turn_77 (fun I26 J26 R26 H locs hp hH => ?_)
  obtain ⟨⟨oI, -, sc26⟩, eJ26, eR26, hf26⟩ := hp
  obtain rfl : J15 = J26 := eJ26.symm
  obtain rfl : R = R26 := eR26.symm
  replace hv := fnW hv hf26
  have sm : Sm C ms_X10_turn (I, J, R) (I26, J15, R) := sm.tr sc26 rfl
  refine lv_bipush (v := (-7)) hx hb dX10_turn_80 (by decide) ?_
  exact ret ((-7)) _ _ _ _ _ _ _ dX10_turn_82 hH ⟨⟨oI, oR, sm⟩, rfl, (Rg_w (Rg_c (x := (-7)) (a := (-7)) (b := (-7)) (by decide)) (by decide)), (hT.symm.trans hv)⟩
noncomputable def F_X10_ask (a0 : Nat) (x1 : Int32) (x2 : Int32) (x3 : Int32) (I : hI) (J : hJ) (R : hR) : Int32 × hU :=
  nm (F_X10_isWithin x1 (0 : Int32) (9 : Int32)) fun y1 => (if y1 = (1 : Int32) then nm (F_X10_isName x2) fun y7 => (if y7 = (1 : Int32) then nm (F_X10_areSorts x3) fun y10 => (if y10 = (1 : Int32) then nm ((R a0 4).getD 0) fun b13 => nm ((10 : Int32) + x1) fun y14 => nm ((R b13 (Int32.toNatClampNeg y14)).getD 0) fun b15 => nm (I b15 1) fun y16 => (if y16 < (6 : Int32) then nm ((R a0 5).getD 0) fun b20 => nmW (F_X9_forgetFace b20 x1 I J R) fun I21 _ _ => nmU (F_X7_add b15 x2 x3 I21 J R) fun y22 I22 _ _ => (y22, (I22, J, R)) else ((-5 : Int32), (I, J, R))) else ((-3 : Int32), (I, J, R))) else ((-3 : Int32), (I, J, R))) else ((-3 : Int32), (I, J, R)))
def ms_X10_ask : List Nat := [320, 321, 322, 324, 325, 326, 449, 2880, 3456, 3520]
set_option maxHeartbeats 4000000 in
set_option maxRecDepth 100000 in
theorem c_X10_ask {l : Launch} {D : va_G} {cy : Nat → ClassId} {L : List Nat} {C : Nat → Nat} {b0 : Nat} {I : hI} {J : hJ} {R : hR} {a0 : Nat} {x1 : Int32} {x2 : Int32} {x3 : Int32} (oI : OkI L C I) (oR : OkR L C R) (m0 : a0 ∈ L) (k0 : C a0 = 10) (hXM : XM L C I) : CI l yX10_ask cX10_ask 5 .int 3 D cy L C b0 [.ref a0, .int x1, .int x2, .int x3] (I, J, R) (fun r v => Ps L C ms_X10_ask (I, J, R) v ∧ v.2.1 = J ∧ v.2.2 = R ∧ Rg r (-5) (5) ∧ (XM L C v.1) ∧ F_X10_ask a0 x1 x2 x3 I J R = (r, v)) := by
  refine CI.mkI (plainFor_of_name (by decide)) (Nat.le_of_ble_eq_true rfl) ?_
  intro p e s m args below meth c ls Q hF ret hH hl
  obtain ⟨hx, hb, -, hml, hown, hts, -⟩ := hF
  have hl : lv_has ls 5 [(0, .ref a0), (1, .int x1), (2, .int x2), (3, .int x3)] := hl
  have hH : Hp D cy L C b0 s s.heap I J R s.heap [] := hH
  have sm : Sm C ms_X10_ask (I, J, R) (I, J, R) := Sm.rf
  obtain ⟨TT0, hT⟩ : ∃ TT0, TT0 = F_X10_ask a0 x1 x2 x3 I J R := ⟨_, rfl⟩
  have hv := hT
  unfold F_X10_ask at hv
  refine lv_iload_n hx hb dX10_ask_0 rfl (lv_at hl 1 rfl) ?_
  refine lv_iconst (v := 0) hx hb dX10_ask_1 (by decide) ?_
  refine lv_bipush (v := 9) hx hb dX10_ask_2 (by decide) ?_
  refine ca_X10_82 hx hb hml hown hts hH (c_X10_isWithin ) hl.1 (by decide) (Nat.le_of_ble_eq_true rfl) ⟨Nat.zero_le _, Nat.zero_le _⟩ dX10_ask_4 (fun y1 I1 J1 R1 H locs hp hH => ?_)
  obtain ⟨eI1, eJ1, eR1, ry1, hp1, hf1⟩ := hp
  obtain rfl : I = I1 := eI1.symm
  obtain rfl : J = J1 := eJ1.symm
  obtain rfl : R = R1 := eR1.symm
  replace hv := fnS hv hf1.symm
  rcases hp1 with ⟨rfl, hq1⟩ | ⟨rfl, hq1⟩
  rotate_left
  · replace hv := fnN hv (by decide)
    refine lv_if_eq (tgt := 24) hx hb dX10_ask_7 (by decide) (fun q29 => ?_) (fun q29 => ?_)
    rotate_left
    · exact absurd rfl q29
    refine lv_bipush (v := (-3)) hx hb dX10_ask_24 (by decide) ?_
    exact ret ((-3)) _ _ _ _ _ _ _ dX10_ask_26 hH ⟨⟨oI, oR, sm⟩, rfl, rfl, (Rg_w (Rg_c (x := (-3)) (a := (-3)) (b := (-3)) (by decide)) (by decide)), (by exact hXM), (hT.symm.trans hv)⟩
  replace hv := fnP hv rfl
  have l2 := hq1.1
  have r3 : Rg x1 (0) (2147483647) := Rg_lle (Rg_any x1) l2 (Rg_c (x := 0) (a := (0)) (b := (0)) (by decide)) (by decide)
  have l4 := hq1.2
  have r5 : Rg x1 (0) (9) := Rg_ule r3 l4 (Rg_c (x := 9) (a := (9)) (b := (9)) (by decide)) (by decide)
  refine lv_if_eq (tgt := 24) hx hb dX10_ask_7 (by decide) (fun q6 => ?_) (fun q6 => ?_)
  · exact absurd q6 (by decide)
  refine lv_iload_n hx hb dX10_ask_10 rfl (lv_at hl 2 rfl) ?_
  refine ca_X10_136 hx hb hml hown hts hH (c_X10_isName ) hl.1 (by decide) (Nat.le_of_ble_eq_true rfl) ⟨Nat.zero_le _, Nat.zero_le _⟩ dX10_ask_11 (fun y7 I7 J7 R7 H locs hp hH => ?_)
  obtain ⟨eI7, eJ7, eR7, ry7, hp7, hf7⟩ := hp
  obtain rfl : I = I7 := eI7.symm
  obtain rfl : J = J7 := eJ7.symm
  obtain rfl : R = R7 := eR7.symm
  replace hv := fnS hv hf7.symm
  rcases hp7 with ⟨rfl, hq7⟩ | ⟨rfl, hq7⟩
  rotate_left
  · replace hv := fnN hv (by decide)
    refine lv_if_eq (tgt := 24) hx hb dX10_ask_14 (by decide) (fun q28 => ?_) (fun q28 => ?_)
    rotate_left
    · exact absurd rfl q28
    refine lv_bipush (v := (-3)) hx hb dX10_ask_24 (by decide) ?_
    exact ret ((-3)) _ _ _ _ _ _ _ dX10_ask_26 hH ⟨⟨oI, oR, sm⟩, rfl, rfl, (Rg_w (Rg_c (x := (-3)) (a := (-3)) (b := (-3)) (by decide)) (by decide)), (by exact hXM), (hT.symm.trans hv)⟩
  replace hv := fnP hv rfl
  have r8 : Rg x2 (0) (99) := ⟨by have h9 := (Rg_any x2).1; omega, by have h9 := (Rg_any x2).2; omega⟩
  refine lv_if_eq (tgt := 24) hx hb dX10_ask_14 (by decide) (fun q9 => ?_) (fun q9 => ?_)
  · exact absurd q9 (by decide)
  refine lv_iload_n hx hb dX10_ask_17 rfl (lv_at hl 3 rfl) ?_
  refine ca_X10_139 hx hb hml hown hts hH (c_X10_areSorts ) hl.1 (by decide) (Nat.le_of_ble_eq_true rfl) ⟨Nat.zero_le _, Nat.zero_le _⟩ dX10_ask_18 (fun y10 I10 J10 R10 H locs hp hH => ?_)
  obtain ⟨eI10, eJ10, eR10, ry10, hp10, hf10⟩ := hp
  obtain rfl : I = I10 := eI10.symm
  obtain rfl : J = J10 := eJ10.symm
  obtain rfl : R = R10 := eR10.symm
  replace hv := fnS hv hf10.symm
  rcases hp10 with ⟨rfl, hq10⟩ | rfl
  rotate_left
  · replace hv := fnN hv (by decide)
    refine lv_if_ne (tgt := 27) hx hb dX10_ask_21 (by decide) (fun q27 => ?_) (fun q27 => ?_)
    · exact absurd rfl q27
    refine lv_bipush (v := (-3)) hx hb dX10_ask_24 (by decide) ?_
    exact ret ((-3)) _ _ _ _ _ _ _ dX10_ask_26 hH ⟨⟨oI, oR, sm⟩, rfl, rfl, (Rg_w (Rg_c (x := (-3)) (a := (-3)) (b := (-3)) (by decide)) (by decide)), (by exact hXM), (hT.symm.trans hv)⟩
  replace hv := fnP hv rfl
  have r11 : Rg x3 (0) (2147483647) := ⟨hq10.1, (Rg_any x3).2⟩
  refine lv_if_ne (tgt := 27) hx hb dX10_ask_21 (by decide) (fun q12 => ?_) (fun q12 => ?_)
  rotate_left
  · exact absurd q12 (by decide)
  refine lv_aload_n hx hb dX10_ask_27 rfl (lv_at hl 0 rfl) ?_
  obtain ⟨b13, mb13, vb13, kb13⟩ := rf_10_4 oR m0 k0
  replace hv := fnR hv vb13
  refine gf_10_4 vb13 hx hb hts hown hH m0 k0 rfl kf_X10_41 dX10_ask_28 ?_
  refine lv_bipush (v := 10) hx hb dX10_ask_31 (by decide) ?_
  refine lv_iload_n hx hb dX10_ask_33 rfl (lv_at hl 1 rfl) ?_
  refine lv_iadd hx hb dX10_ask_34 ?_
  refine lv_topi (fun y14 ey14 => ?_)
  replace hv := fnS hv ey14
  obtain ⟨ty14, ry14⟩ := Rg_addx (a' := (10)) (b' := (19)) (by decide : Int32.toInt 10 = 10) (rfl : x1.toInt = _) (Rg_c (x := 10) (a := (10)) (b := (10)) (by decide)) r5 (by decide)
  rw [← ey14] at ty14 ry14
  obtain ⟨b15, mb15, vb15, kb15⟩ := rr_57 oR mb13 kb13 (Rg_in ry14 (by decide))
  replace hv := fnR hv vb15
  refine ld_57 hx hb hH mb13 kb13 (Rg_in ry14 (by decide)) vb15 dX10_ask_35 ?_
  refine lv_astore (lv' := [(4, .ref b15), (0, .ref a0), (1, .int x1), (2, .int x2), (3, .int x3)]) hx hb dX10_ask_36 hl (by decide) rfl (fun ls hl => ?_)
  refine lv_aload hx hb dX10_ask_38 (lv_at hl 0 rfl) ?_
  refine gf_7_1 hx hb hts hown hH mb15 kb15 rfl kf_X10_142 dX10_ask_40 ?_
  refine lv_topi (fun y16 ey16 => ?_)
  have ry16 : Rg y16 (0) (6) := by rw [ey16]; exact rf_7_1 oI mb15 kb15
  replace hv := fnS hv ey16
  refine lv_bipush (v := 6) hx hb dX10_ask_43 (by decide) ?_
  refine lv_icmp_lt (tgt := 51) hx hb dX10_ask_45 (by decide) (fun q17 => ?_) (fun q17 => ?_)
  rotate_left
  · replace hv := fnN hv q17
    have l25 := Rg_nlt q17
    have r26 : Rg y16 (6) (6) := Rg_lle ry16 (Rg_nlt q17) (Rg_c (x := 6) (a := (6)) (b := (6)) (by decide)) (by decide)
    refine lv_bipush (v := (-5)) hx hb dX10_ask_48 (by decide) ?_
    exact ret ((-5)) _ _ _ _ _ _ _ dX10_ask_50 hH ⟨⟨oI, oR, sm⟩, rfl, rfl, (Rg_w (Rg_c (x := (-5)) (a := (-5)) (b := (-5)) (by decide)) (by decide)), (by exact hXM), (hT.symm.trans hv)⟩
  replace hv := fnP hv q17
  have l18 := Rg_lt q17
  have r19 : Rg y16 (0) (5) := Rg_ult ry16 (Rg_lt q17) (Rg_c (x := 6) (a := (6)) (b := (6)) (by decide)) (by decide)
  refine lv_aload_n hx hb dX10_ask_51 rfl (lv_at hl 1 rfl) ?_
  obtain ⟨b20, mb20, vb20, kb20⟩ := rf_10_5 oR m0 k0
  replace hv := fnR hv vb20
  refine gf_10_5 vb20 hx hb hts hown hH m0 k0 rfl kf_X10_50 dX10_ask_52 ?_
  refine lv_iload_n hx hb dX10_ask_55 rfl (lv_at hl 2 rfl) ?_
  refine ca_X10_145 hx hb hml hown hts hH (c_X9_forgetFace oI oR mb20 kb20 r5) hl.1 mb20 kb20 rfl (by decide) (Nat.le_of_ble_eq_true rfl) ⟨Nat.zero_le _, Nat.zero_le _⟩ dX10_ask_56 (fun I21 J21 R21 H locs hp hH => ?_)
  obtain ⟨⟨oI, -, sc21⟩, eJ21, eR21, hf21⟩ := hp
  obtain rfl : J = J21 := eJ21.symm
  obtain rfl : R = R21 := eR21.symm
  replace hv := fnW hv hf21
  have sm : Sm C ms_X10_ask (I, J, R) (I21, J, R) := sm.tr sc21 rfl
  refine lv_aload hx hb dX10_ask_59 (lv_at hl 0 rfl) ?_
  refine lv_iload_n hx hb dX10_ask_61 rfl (lv_at hl 3 rfl) ?_
  refine lv_iload_n hx hb dX10_ask_62 rfl (lv_at hl 4 rfl) ?_
  have f24 : I21 b15 (1) = I b15 (1) := ((sc21 b15 1 (by rw [kb15]; exact (by decide))).1)
  have f23 : y16 = I21 b15 (1) := ey16.trans f24.symm
  refine ca_X10_148 hx hb hml hown hts hH (c_X7_add oI oR mb15 kb15 r8 r11 (by rw [← f23]; exact Rg_w r19 (by decide)) (by exact (XM.sm (u := (I, _, _)) (v := (I21, _, _)) hXM sc21 rfl rfl)) (by exact hq10)) hl.1 mb15 kb15 rfl (by decide) (Nat.le_of_ble_eq_true rfl) ⟨Nat.zero_le _, Nat.zero_le _⟩ dX10_ask_63 (fun y22 I22 J22 R22 H locs hp hH => ?_)
  obtain ⟨⟨oI, -, sc22⟩, eJ22, eR22, ry22, hp22, hf22⟩ := hp
  obtain rfl : J = J22 := eJ22.symm
  obtain rfl : R = R22 := eR22.symm
  replace hv := fnC hv hf22
  have sm : Sm C ms_X10_ask (I, J, R) (I22, J, R) := sm.tr sc22 rfl
  exact ret (y22) _ _ _ _ _ _ _ dX10_ask_66 hH ⟨⟨oI, oR, sm⟩, rfl, rfl, (Rg_w ry22 (by decide)), (by exact hp22), (hT.symm.trans hv)⟩
noncomputable def F_X10_offer (a0 : Nat) (x1 : Int32) (x2 : Int32) (x3 : Int32) (I : hI) (J : hJ) (R : hR) : Int32 × hU :=
  nm (F_X10_isWithin x1 (0 : Int32) (9 : Int32)) fun y1 => (if y1 = (1 : Int32) then nm (F_X10_isName x2) fun y7 => (if y7 = (1 : Int32) then nm (F_X10_areSorts x3) fun y10 => (if y10 = (1 : Int32) then nm ((R a0 4).getD 0) fun b13 => nm ((R b13 (Int32.toNatClampNeg x1)).getD 0) fun b14 => nm (I b14 1) fun y15 => (if y15 < (6 : Int32) then nmU (F_X7_add b14 x2 x3 I J R) fun y19 I19 _ _ => (y19, (I19, J, R)) else ((-5 : Int32), (I, J, R))) else ((-3 : Int32), (I, J, R))) else ((-3 : Int32), (I, J, R))) else ((-3 : Int32), (I, J, R)))
def ms_X10_offer : List Nat := [320, 321, 322, 324, 325, 326, 449, 3456, 3520]
set_option maxHeartbeats 4000000 in
set_option maxRecDepth 100000 in
theorem c_X10_offer {l : Launch} {D : va_G} {cy : Nat → ClassId} {L : List Nat} {C : Nat → Nat} {b0 : Nat} {I : hI} {J : hJ} {R : hR} {a0 : Nat} {x1 : Int32} {x2 : Int32} {x3 : Int32} (oI : OkI L C I) (oR : OkR L C R) (m0 : a0 ∈ L) (k0 : C a0 = 10) (hXM : XM L C I) : CI l yX10_offer cX10_offer 4 .int 3 D cy L C b0 [.ref a0, .int x1, .int x2, .int x3] (I, J, R) (fun r v => Ps L C ms_X10_offer (I, J, R) v ∧ v.2.1 = J ∧ v.2.2 = R ∧ Rg r (-5) (5) ∧ (XM L C v.1) ∧ F_X10_offer a0 x1 x2 x3 I J R = (r, v)) := by
  refine CI.mkI (plainFor_of_name (by decide)) (Nat.le_of_ble_eq_true rfl) ?_
  intro p e s m args below meth c ls Q hF ret hH hl
  obtain ⟨hx, hb, -, hml, hown, hts, -⟩ := hF
  have hl : lv_has ls 4 [(0, .ref a0), (1, .int x1), (2, .int x2), (3, .int x3)] := hl
  have hH : Hp D cy L C b0 s s.heap I J R s.heap [] := hH
  have sm : Sm C ms_X10_offer (I, J, R) (I, J, R) := Sm.rf
  obtain ⟨TT0, hT⟩ : ∃ TT0, TT0 = F_X10_offer a0 x1 x2 x3 I J R := ⟨_, rfl⟩
  have hv := hT
  unfold F_X10_offer at hv
  refine lv_iload_n hx hb dX10_offer_0 rfl (lv_at hl 1 rfl) ?_
  refine lv_iconst (v := 0) hx hb dX10_offer_1 (by decide) ?_
  refine lv_bipush (v := 9) hx hb dX10_offer_2 (by decide) ?_
  refine ca_X10_82 hx hb hml hown hts hH (c_X10_isWithin ) hl.1 (by decide) (Nat.le_of_ble_eq_true rfl) ⟨Nat.zero_le _, Nat.zero_le _⟩ dX10_offer_4 (fun y1 I1 J1 R1 H locs hp hH => ?_)
  obtain ⟨eI1, eJ1, eR1, ry1, hp1, hf1⟩ := hp
  obtain rfl : I = I1 := eI1.symm
  obtain rfl : J = J1 := eJ1.symm
  obtain rfl : R = R1 := eR1.symm
  replace hv := fnS hv hf1.symm
  rcases hp1 with ⟨rfl, hq1⟩ | ⟨rfl, hq1⟩
  rotate_left
  · replace hv := fnN hv (by decide)
    refine lv_if_eq (tgt := 24) hx hb dX10_offer_7 (by decide) (fun q24 => ?_) (fun q24 => ?_)
    rotate_left
    · exact absurd rfl q24
    refine lv_bipush (v := (-3)) hx hb dX10_offer_24 (by decide) ?_
    exact ret ((-3)) _ _ _ _ _ _ _ dX10_offer_26 hH ⟨⟨oI, oR, sm⟩, rfl, rfl, (Rg_w (Rg_c (x := (-3)) (a := (-3)) (b := (-3)) (by decide)) (by decide)), (by exact hXM), (hT.symm.trans hv)⟩
  replace hv := fnP hv rfl
  have l2 := hq1.1
  have r3 : Rg x1 (0) (2147483647) := Rg_lle (Rg_any x1) l2 (Rg_c (x := 0) (a := (0)) (b := (0)) (by decide)) (by decide)
  have l4 := hq1.2
  have r5 : Rg x1 (0) (9) := Rg_ule r3 l4 (Rg_c (x := 9) (a := (9)) (b := (9)) (by decide)) (by decide)
  refine lv_if_eq (tgt := 24) hx hb dX10_offer_7 (by decide) (fun q6 => ?_) (fun q6 => ?_)
  · exact absurd q6 (by decide)
  refine lv_iload_n hx hb dX10_offer_10 rfl (lv_at hl 2 rfl) ?_
  refine ca_X10_136 hx hb hml hown hts hH (c_X10_isName ) hl.1 (by decide) (Nat.le_of_ble_eq_true rfl) ⟨Nat.zero_le _, Nat.zero_le _⟩ dX10_offer_11 (fun y7 I7 J7 R7 H locs hp hH => ?_)
  obtain ⟨eI7, eJ7, eR7, ry7, hp7, hf7⟩ := hp
  obtain rfl : I = I7 := eI7.symm
  obtain rfl : J = J7 := eJ7.symm
  obtain rfl : R = R7 := eR7.symm
  replace hv := fnS hv hf7.symm
  rcases hp7 with ⟨rfl, hq7⟩ | ⟨rfl, hq7⟩
  rotate_left
  · replace hv := fnN hv (by decide)
    refine lv_if_eq (tgt := 24) hx hb dX10_offer_14 (by decide) (fun q23 => ?_) (fun q23 => ?_)
    rotate_left
    · exact absurd rfl q23
    refine lv_bipush (v := (-3)) hx hb dX10_offer_24 (by decide) ?_
    exact ret ((-3)) _ _ _ _ _ _ _ dX10_offer_26 hH ⟨⟨oI, oR, sm⟩, rfl, rfl, (Rg_w (Rg_c (x := (-3)) (a := (-3)) (b := (-3)) (by decide)) (by decide)), (by exact hXM), (hT.symm.trans hv)⟩
  replace hv := fnP hv rfl
  have r8 : Rg x2 (0) (99) := ⟨by have h9 := (Rg_any x2).1; omega, by have h9 := (Rg_any x2).2; omega⟩
  refine lv_if_eq (tgt := 24) hx hb dX10_offer_14 (by decide) (fun q9 => ?_) (fun q9 => ?_)
  · exact absurd q9 (by decide)
  refine lv_iload_n hx hb dX10_offer_17 rfl (lv_at hl 3 rfl) ?_
  refine ca_X10_139 hx hb hml hown hts hH (c_X10_areSorts ) hl.1 (by decide) (Nat.le_of_ble_eq_true rfl) ⟨Nat.zero_le _, Nat.zero_le _⟩ dX10_offer_18 (fun y10 I10 J10 R10 H locs hp hH => ?_)
  obtain ⟨eI10, eJ10, eR10, ry10, hp10, hf10⟩ := hp
  obtain rfl : I = I10 := eI10.symm
  obtain rfl : J = J10 := eJ10.symm
  obtain rfl : R = R10 := eR10.symm
  replace hv := fnS hv hf10.symm
  rcases hp10 with ⟨rfl, hq10⟩ | rfl
  rotate_left
  · replace hv := fnN hv (by decide)
    refine lv_if_ne (tgt := 27) hx hb dX10_offer_21 (by decide) (fun q22 => ?_) (fun q22 => ?_)
    · exact absurd rfl q22
    refine lv_bipush (v := (-3)) hx hb dX10_offer_24 (by decide) ?_
    exact ret ((-3)) _ _ _ _ _ _ _ dX10_offer_26 hH ⟨⟨oI, oR, sm⟩, rfl, rfl, (Rg_w (Rg_c (x := (-3)) (a := (-3)) (b := (-3)) (by decide)) (by decide)), (by exact hXM), (hT.symm.trans hv)⟩
  replace hv := fnP hv rfl
  have r11 : Rg x3 (0) (2147483647) := ⟨hq10.1, (Rg_any x3).2⟩
  refine lv_if_ne (tgt := 27) hx hb dX10_offer_21 (by decide) (fun q12 => ?_) (fun q12 => ?_)
  rotate_left
  · exact absurd q12 (by decide)
  refine lv_aload_n hx hb dX10_offer_27 rfl (lv_at hl 0 rfl) ?_
  obtain ⟨b13, mb13, vb13, kb13⟩ := rf_10_4 oR m0 k0
  replace hv := fnR hv vb13
  refine gf_10_4 vb13 hx hb hts hown hH m0 k0 rfl kf_X10_41 dX10_offer_28 ?_
  refine lv_iload_n hx hb dX10_offer_31 rfl (lv_at hl 1 rfl) ?_
  obtain ⟨b14, mb14, vb14, kb14⟩ := rr_57 oR mb13 kb13 (Rg_in r5 (by decide))
  replace hv := fnR hv vb14
  refine ld_57 hx hb hH mb13 kb13 (Rg_in r5 (by decide)) vb14 dX10_offer_32 ?_
  refine gf_7_1 hx hb hts hown hH mb14 kb14 rfl kf_X10_142 dX10_offer_33 ?_
  refine lv_topi (fun y15 ey15 => ?_)
  have ry15 : Rg y15 (0) (6) := by rw [ey15]; exact rf_7_1 oI mb14 kb14
  replace hv := fnS hv ey15
  refine lv_bipush (v := 6) hx hb dX10_offer_36 (by decide) ?_
  refine lv_icmp_lt (tgt := 46) hx hb dX10_offer_38 (by decide) (fun q16 => ?_) (fun q16 => ?_)
  rotate_left
  · replace hv := fnN hv q16
    have l20 := Rg_nlt q16
    have r21 : Rg y15 (6) (6) := Rg_lle ry15 (Rg_nlt q16) (Rg_c (x := 6) (a := (6)) (b := (6)) (by decide)) (by decide)
    refine lv_bipush (v := (-5)) hx hb dX10_offer_41 (by decide) ?_
    refine lv_goto (tgt := 57) hx hb dX10_offer_43 (by decide) ?_
    exact ret ((-5)) _ _ _ _ _ _ _ dX10_offer_57 hH ⟨⟨oI, oR, sm⟩, rfl, rfl, (Rg_w (Rg_c (x := (-5)) (a := (-5)) (b := (-5)) (by decide)) (by decide)), (by exact hXM), (hT.symm.trans hv)⟩
  replace hv := fnP hv q16
  have l17 := Rg_lt q16
  have r18 : Rg y15 (0) (5) := Rg_ult ry15 (Rg_lt q16) (Rg_c (x := 6) (a := (6)) (b := (6)) (by decide)) (by decide)
  refine lv_aload_n hx hb dX10_offer_46 rfl (lv_at hl 0 rfl) ?_
  refine gf_10_4 vb13 hx hb hts hown hH m0 k0 rfl kf_X10_41 dX10_offer_47 ?_
  refine lv_iload_n hx hb dX10_offer_50 rfl (lv_at hl 1 rfl) ?_
  refine ld_57 hx hb hH mb13 kb13 (Rg_in r5 (by decide)) vb14 dX10_offer_51 ?_
  refine lv_iload_n hx hb dX10_offer_52 rfl (lv_at hl 2 rfl) ?_
  refine lv_iload_n hx hb dX10_offer_53 rfl (lv_at hl 3 rfl) ?_
  refine ca_X10_148 hx hb hml hown hts hH (c_X7_add oI oR mb14 kb14 r8 r11 (by rw [← ey15]; exact Rg_w r18 (by decide)) (by exact hXM) (by exact hq10)) hl.1 mb14 kb14 rfl (by decide) (Nat.le_of_ble_eq_true rfl) ⟨Nat.zero_le _, Nat.zero_le _⟩ dX10_offer_54 (fun y19 I19 J19 R19 H locs hp hH => ?_)
  obtain ⟨⟨oI, -, sc19⟩, eJ19, eR19, ry19, hp19, hf19⟩ := hp
  obtain rfl : J = J19 := eJ19.symm
  obtain rfl : R = R19 := eR19.symm
  replace hv := fnC hv hf19
  have sm : Sm C ms_X10_offer (I, J, R) (I19, J, R) := sm.tr sc19 rfl
  exact ret (y19) _ _ _ _ _ _ _ dX10_offer_57 hH ⟨⟨oI, oR, sm⟩, rfl, rfl, (Rg_w ry19 (by decide)), (by exact hp19), (hT.symm.trans hv)⟩
noncomputable def F_X10_work (a0 : Nat) (x1 : Int32) (x2 : Int32) (x3 : Int32) (x4 : Int32) (x5 : Int32) (I : hI) (J : hJ) (R : hR) : Int32 × hU :=
  nm (F_X10_isWithin x1 (0 : Int32) (9 : Int32)) fun y1 => (if y1 = (1 : Int32) then nm (F_X10_isWithin x3 (0 : Int32) (2 : Int32)) fun y7 => (if y7 = (1 : Int32) then (if x3 = (0 : Int32) then (if x4 = (-1 : Int32) then (if x3 = (0 : Int32) then nm (F_X10_isWithin x5 (-1000 : Int32) (1000 : Int32)) fun y73 => (if y73 = (1 : Int32) then nm ((R a0 4).getD 0) fun b79 => nm ((R b79 (Int32.toNatClampNeg x1)).getD 0) fun b80 => nm (F_X7_has b80 x2 I J R) fun y81 => (if y81 = (1 : Int32) then nm ((R b80 0).getD 0) fun b84 => nm ((R b84 (Int32.toNatClampNeg x2)).getD 0) fun b85 => nmW (F_X5_setWork b85 x3 x4 x5 I J R) fun I86 _ _ => ((0 : Int32), (I86, J, R)) else ((-2 : Int32), (I, J, R))) else ((-3 : Int32), (I, J, R))) else default) else nm (F_X10_isWithin x4 (0 : Int32) (2 : Int32)) fun y41 => (if y41 = (1 : Int32) then (if x3 = (0 : Int32) then nm (F_X10_isWithin x5 (-1000 : Int32) (1000 : Int32)) fun y50 => (if y50 = (1 : Int32) then nm ((R a0 4).getD 0) fun b56 => nm ((R b56 (Int32.toNatClampNeg x1)).getD 0) fun b57 => nm (F_X7_has b57 x2 I J R) fun y58 => (if y58 = (1 : Int32) then nm ((R b57 0).getD 0) fun b61 => nm ((R b61 (Int32.toNatClampNeg x2)).getD 0) fun b62 => nmW (F_X5_setWork b62 x3 x4 x5 I J R) fun I63 _ _ => ((0 : Int32), (I63, J, R)) else ((-2 : Int32), (I, J, R))) else ((-3 : Int32), (I, J, R))) else default) else ((-3 : Int32), (I, J, R)))) else nm (F_X10_isWithin x4 (0 : Int32) (2 : Int32)) fun y17 => (if y17 = (1 : Int32) then (if x3 = (0 : Int32) then default else nm ((R a0 4).getD 0) fun b25 => nm ((R b25 (Int32.toNatClampNeg x1)).getD 0) fun b26 => nm (F_X7_has b26 x2 I J R) fun y27 => (if y27 = (1 : Int32) then nm ((R b26 0).getD 0) fun b30 => nm ((R b30 (Int32.toNatClampNeg x2)).getD 0) fun b31 => nmW (F_X5_setWork b31 x3 x4 x5 I J R) fun I32 _ _ => ((0 : Int32), (I32, J, R)) else ((-2 : Int32), (I, J, R)))) else ((-3 : Int32), (I, J, R)))) else ((-3 : Int32), (I, J, R))) else ((-3 : Int32), (I, J, R)))
def ms_X10_work : List Nat := [324, 325, 326]
set_option maxHeartbeats 4000000 in
set_option maxRecDepth 100000 in
theorem c_X10_work {l : Launch} {D : va_G} {cy : Nat → ClassId} {L : List Nat} {C : Nat → Nat} {b0 : Nat} {I : hI} {J : hJ} {R : hR} {a0 : Nat} {x1 : Int32} {x2 : Int32} {x3 : Int32} {x4 : Int32} {x5 : Int32} (oI : OkI L C I) (oR : OkR L C R) (m0 : a0 ∈ L) (k0 : C a0 = 10) (hXM : XM L C I) : CI l yX10_work cX10_work 7 .int 2 D cy L C b0 [.ref a0, .int x1, .int x2, .int x3, .int x4, .int x5] (I, J, R) (fun r v => Ps L C ms_X10_work (I, J, R) v ∧ v.2.1 = J ∧ v.2.2 = R ∧ Rg r (-3) (0) ∧ (XM L C v.1) ∧ F_X10_work a0 x1 x2 x3 x4 x5 I J R = (r, v)) := by
  refine CI.mkI (plainFor_of_name (by decide)) (Nat.le_of_ble_eq_true rfl) ?_
  intro p e s m args below meth c ls Q hF ret hH hl
  obtain ⟨hx, hb, -, hml, hown, hts, -⟩ := hF
  have hl : lv_has ls 7 [(0, .ref a0), (1, .int x1), (2, .int x2), (3, .int x3), (4, .int x4), (5, .int x5)] := hl
  have hH : Hp D cy L C b0 s s.heap I J R s.heap [] := hH
  have sm : Sm C ms_X10_work (I, J, R) (I, J, R) := Sm.rf
  obtain ⟨TT0, hT⟩ : ∃ TT0, TT0 = F_X10_work a0 x1 x2 x3 x4 x5 I J R := ⟨_, rfl⟩
  have hv := hT
  unfold F_X10_work at hv
  refine lv_iload_n hx hb dX10_work_0 rfl (lv_at hl 1 rfl) ?_
  refine lv_iconst (v := 0) hx hb dX10_work_1 (by decide) ?_
  refine lv_bipush (v := 9) hx hb dX10_work_2 (by decide) ?_
  refine ca_X10_82 hx hb hml hown hts hH (c_X10_isWithin ) hl.1 (by decide) (Nat.le_of_ble_eq_true rfl) ⟨Nat.zero_le _, Nat.zero_le _⟩ dX10_work_4 (fun y1 I1 J1 R1 H locs hp hH => ?_)
  obtain ⟨eI1, eJ1, eR1, ry1, hp1, hf1⟩ := hp
  obtain rfl : I = I1 := eI1.symm
  obtain rfl : J = J1 := eJ1.symm
  obtain rfl : R = R1 := eR1.symm
  replace hv := fnS hv hf1.symm
  rcases hp1 with ⟨rfl, hq1⟩ | ⟨rfl, hq1⟩
  rotate_left
  · replace hv := fnN hv (by decide)
    refine lv_if_eq (tgt := 19) hx hb dX10_work_7 (by decide) (fun q90 => ?_) (fun q90 => ?_)
    rotate_left
    · exact absurd rfl q90
    refine lv_bipush (v := (-3)) hx hb dX10_work_19 (by decide) ?_
    exact ret ((-3)) _ _ _ _ _ _ _ dX10_work_21 hH ⟨⟨oI, oR, sm⟩, rfl, rfl, (Rg_w (Rg_c (x := (-3)) (a := (-3)) (b := (-3)) (by decide)) (by decide)), (by exact hXM), (hT.symm.trans hv)⟩
  replace hv := fnP hv rfl
  have l2 := hq1.1
  have r3 : Rg x1 (0) (2147483647) := Rg_lle (Rg_any x1) l2 (Rg_c (x := 0) (a := (0)) (b := (0)) (by decide)) (by decide)
  have l4 := hq1.2
  have r5 : Rg x1 (0) (9) := Rg_ule r3 l4 (Rg_c (x := 9) (a := (9)) (b := (9)) (by decide)) (by decide)
  refine lv_if_eq (tgt := 19) hx hb dX10_work_7 (by decide) (fun q6 => ?_) (fun q6 => ?_)
  · exact absurd q6 (by decide)
  refine lv_iload_n hx hb dX10_work_10 rfl (lv_at hl 3 rfl) ?_
  refine lv_iconst (v := 0) hx hb dX10_work_11 (by decide) ?_
  refine lv_iconst (v := 2) hx hb dX10_work_12 (by decide) ?_
  refine ca_X10_82 hx hb hml hown hts hH (c_X10_isWithin ) hl.1 (by decide) (Nat.le_of_ble_eq_true rfl) ⟨Nat.zero_le _, Nat.zero_le _⟩ dX10_work_13 (fun y7 I7 J7 R7 H locs hp hH => ?_)
  obtain ⟨eI7, eJ7, eR7, ry7, hp7, hf7⟩ := hp
  obtain rfl : I = I7 := eI7.symm
  obtain rfl : J = J7 := eJ7.symm
  obtain rfl : R = R7 := eR7.symm
  replace hv := fnS hv hf7.symm
  rcases hp7 with ⟨rfl, hq7⟩ | ⟨rfl, hq7⟩
  rotate_left
  · replace hv := fnN hv (by decide)
    refine lv_if_ne (tgt := 22) hx hb dX10_work_16 (by decide) (fun q89 => ?_) (fun q89 => ?_)
    · exact absurd rfl q89
    refine lv_bipush (v := (-3)) hx hb dX10_work_19 (by decide) ?_
    exact ret ((-3)) _ _ _ _ _ _ _ dX10_work_21 hH ⟨⟨oI, oR, sm⟩, rfl, rfl, (Rg_w (Rg_c (x := (-3)) (a := (-3)) (b := (-3)) (by decide)) (by decide)), (by exact hXM), (hT.symm.trans hv)⟩
  replace hv := fnP hv rfl
  have l8 := hq7.1
  have r9 : Rg x3 (0) (2147483647) := Rg_lle (Rg_any x3) l8 (Rg_c (x := 0) (a := (0)) (b := (0)) (by decide)) (by decide)
  have l10 := hq7.2
  have r11 : Rg x3 (0) (2) := Rg_ule r9 l10 (Rg_c (x := 2) (a := (2)) (b := (2)) (by decide)) (by decide)
  refine lv_if_ne (tgt := 22) hx hb dX10_work_16 (by decide) (fun q12 => ?_) (fun q12 => ?_)
  rotate_left
  · exact absurd q12 (by decide)
  refine lv_iload_n hx hb dX10_work_22 rfl (lv_at hl 3 rfl) ?_
  refine lv_if_ne (tgt := 36) hx hb dX10_work_23 (by decide) (fun q13 => ?_) (fun q13 => ?_)
  · replace hv := fnN hv q13
    have l14 := Rg_ne q13
    have r15 : Rg x3 (1) (2) := Rg_nelo r11 (Rg_ne q13) (Rg_c (x := 0) (a := (0)) (b := (0)) (by decide)) (by decide)
    refine lv_iconst (v := 0) hx hb dX10_work_36 (by decide) ?_
    refine lv_istore (lv' := [(6, .int 0), (0, .ref a0), (1, .int x1), (2, .int x2), (3, .int x3), (4, .int x4), (5, .int x5)]) hx hb dX10_work_37 hl (by decide) rfl (fun ls hl => ?_)
    refine lv_iload hx hb dX10_work_39 (lv_at hl 0 rfl) ?_
    refine lv_if_ne (tgt := 57) hx hb dX10_work_41 (by decide) (fun q16 => ?_) (fun q16 => ?_)
    · exact absurd rfl q16
    refine lv_iload hx hb dX10_work_44 (lv_at hl 5 rfl) ?_
    refine lv_iconst (v := 0) hx hb dX10_work_46 (by decide) ?_
    refine lv_iconst (v := 2) hx hb dX10_work_47 (by decide) ?_
    refine ca_X10_82 hx hb hml hown hts hH (c_X10_isWithin ) hl.1 (by decide) (Nat.le_of_ble_eq_true rfl) ⟨Nat.zero_le _, Nat.zero_le _⟩ dX10_work_48 (fun y17 I17 J17 R17 H locs hp hH => ?_)
    obtain ⟨eI17, eJ17, eR17, ry17, hp17, hf17⟩ := hp
    obtain rfl : I = I17 := eI17.symm
    obtain rfl : J = J17 := eJ17.symm
    obtain rfl : R = R17 := eR17.symm
    replace hv := fnS hv hf17.symm
    rcases hp17 with ⟨rfl, hq17⟩ | ⟨rfl, hq17⟩
    rotate_left
    · replace hv := fnN hv (by decide)
      refine lv_if_ne (tgt := 57) hx hb dX10_work_51 (by decide) (fun q35 => ?_) (fun q35 => ?_)
      · exact absurd rfl q35
      refine lv_bipush (v := (-3)) hx hb dX10_work_54 (by decide) ?_
      exact ret ((-3)) _ _ _ _ _ _ _ dX10_work_56 hH ⟨⟨oI, oR, sm⟩, rfl, rfl, (Rg_w (Rg_c (x := (-3)) (a := (-3)) (b := (-3)) (by decide)) (by decide)), (by exact hXM), (hT.symm.trans hv)⟩
    replace hv := fnP hv rfl
    have l18 := hq17.1
    have r19 : Rg x4 (0) (2147483647) := Rg_lle (Rg_any x4) l18 (Rg_c (x := 0) (a := (0)) (b := (0)) (by decide)) (by decide)
    have l20 := hq17.2
    have r21 : Rg x4 (0) (2) := Rg_ule r19 l20 (Rg_c (x := 2) (a := (2)) (b := (2)) (by decide)) (by decide)
    refine lv_if_ne (tgt := 57) hx hb dX10_work_51 (by decide) (fun q22 => ?_) (fun q22 => ?_)
    rotate_left
    · exact absurd q22 (by decide)
    refine lv_iload_n hx hb dX10_work_57 rfl (lv_at hl 4 rfl) ?_
    refine lv_if_ne (tgt := 78) hx hb dX10_work_58 (by decide) (fun q23 => ?_) (fun q23 => ?_)
    rotate_left
    · replace hv := fnP hv q23
      exact Rg_no (Rg_both r15 (Rg_eqv q23 (Rg_c (x := 0) (a := (0)) (b := (0)) (by decide))) (a' := (1)) (b' := (0)) (by decide)) (by decide)
    replace hv := fnN hv q23
    have l24 := Rg_ne q23
    refine lv_aload_n hx hb dX10_work_78 rfl (lv_at hl 1 rfl) ?_
    obtain ⟨b25, mb25, vb25, kb25⟩ := rf_10_4 oR m0 k0
    replace hv := fnR hv vb25
    refine gf_10_4 vb25 hx hb hts hown hH m0 k0 rfl kf_X10_41 dX10_work_79 ?_
    refine lv_iload_n hx hb dX10_work_82 rfl (lv_at hl 2 rfl) ?_
    obtain ⟨b26, mb26, vb26, kb26⟩ := rr_57 oR mb25 kb25 (Rg_in r5 (by decide))
    replace hv := fnR hv vb26
    refine ld_57 hx hb hH mb25 kb25 (Rg_in r5 (by decide)) vb26 dX10_work_83 ?_
    refine lv_iload_n hx hb dX10_work_84 rfl (lv_at hl 3 rfl) ?_
    refine ca_X10_151 hx hb hml hown hts hH (c_X7_has oI oR mb26 kb26) hl.1 mb26 kb26 rfl (by decide) (Nat.le_of_ble_eq_true rfl) ⟨Nat.zero_le _, Nat.zero_le _⟩ dX10_work_85 (fun y27 I27 J27 R27 H locs hp hH => ?_)
    obtain ⟨eI27, eJ27, eR27, ry27, hp27, hf27⟩ := hp
    obtain rfl : I = I27 := eI27.symm
    obtain rfl : J = J27 := eJ27.symm
    obtain rfl : R = R27 := eR27.symm
    replace hv := fnS hv hf27.symm
    rcases hp27 with ⟨rfl, hq27⟩ | ⟨rfl, hq27⟩
    rotate_left
    · replace hv := fnN hv (by decide)
      refine lv_if_ne (tgt := 94) hx hb dX10_work_88 (by decide) (fun q33 => ?_) (fun q33 => ?_)
      · exact absurd rfl q33
      refine lv_bipush (v := (-2)) hx hb dX10_work_91 (by decide) ?_
      exact ret ((-2)) _ _ _ _ _ _ _ dX10_work_93 hH ⟨⟨oI, oR, sm⟩, rfl, rfl, (Rg_w (Rg_c (x := (-2)) (a := (-2)) (b := (-2)) (by decide)) (by decide)), (by exact hXM), (hT.symm.trans hv)⟩
    replace hv := fnP hv rfl
    have r28 : Rg x2 (0) (5) := ⟨by have h9 := (Rg_any x2).1; omega, by have h9 := (Rg_any x2).2; omega⟩
    refine lv_if_ne (tgt := 94) hx hb dX10_work_88 (by decide) (fun q29 => ?_) (fun q29 => ?_)
    rotate_left
    · exact absurd q29 (by decide)
    refine lv_aload_n hx hb dX10_work_94 rfl (lv_at hl 1 rfl) ?_
    refine gf_10_4 vb25 hx hb hts hown hH m0 k0 rfl kf_X10_41 dX10_work_95 ?_
    refine lv_iload_n hx hb dX10_work_98 rfl (lv_at hl 2 rfl) ?_
    refine ld_57 hx hb hH mb25 kb25 (Rg_in r5 (by decide)) vb26 dX10_work_99 ?_
    obtain ⟨b30, mb30, vb30, kb30⟩ := rf_7_0 oR mb26 kb26
    replace hv := fnR hv vb30
    refine gf_7_0 vb30 hx hb hts hown hH mb26 kb26 rfl kf_X10_154 dX10_work_100 ?_
    refine lv_iload_n hx hb dX10_work_103 rfl (lv_at hl 3 rfl) ?_
    obtain ⟨b31, mb31, vb31, kb31⟩ := rr_56 oR mb30 kb30 (Rg_in r28 (by decide))
    replace hv := fnR hv vb31
    refine ld_56 hx hb hH mb30 kb30 (Rg_in r28 (by decide)) vb31 dX10_work_104 ?_
    refine lv_iload_n hx hb dX10_work_105 rfl (lv_at hl 4 rfl) ?_
    refine lv_iload hx hb dX10_work_106 (lv_at hl 5 rfl) ?_
    refine lv_iload hx hb dX10_work_108 (lv_at hl 6 rfl) ?_
    refine ca_X10_158 hx hb hml hown hts hH (c_X5_setWork oI oR mb31 kb31 (Rg_w r15 (by decide)) (Rg_w r21 (by decide)) (by exact hXM) (by exact fun _ => (Rg_w (a' := 0) (b' := 2) r21 (by decide)).1)) hl.1 mb31 kb31 rfl (by decide) (Nat.le_of_ble_eq_true rfl) ⟨Nat.zero_le _, Nat.zero_le _⟩ dX10_work_110 (fun I32 J32 R32 H locs hp hH => ?_)
    obtain ⟨⟨oI, -, sc32⟩, eJ32, eR32, hp32, hf32⟩ := hp
    obtain rfl : J = J32 := eJ32.symm
    obtain rfl : R = R32 := eR32.symm
    replace hv := fnW hv hf32
    have sm : Sm C ms_X10_work (I, J, R) (I32, J, R) := sm.tr sc32 rfl
    refine lv_iconst (v := 0) hx hb dX10_work_113 (by decide) ?_
    exact ret (0) _ _ _ _ _ _ _ dX10_work_114 hH ⟨⟨oI, oR, sm⟩, rfl, rfl, (Rg_w (Rg_c (x := 0) (a := (0)) (b := (0)) (by decide)) (by decide)), (by exact hp32), (hT.symm.trans hv)⟩
  replace hv := fnP hv q13
  have l36 := congrArg Int32.toInt q13
  have r37 : Rg x3 (0) (0) := Rg_both r11 (Rg_eqv q13 (Rg_c (x := 0) (a := (0)) (b := (0)) (by decide))) (by decide)
  refine lv_iload hx hb dX10_work_26 (lv_at hl 4 rfl) ?_
  refine lv_iconst (v := (-1)) hx hb dX10_work_28 (by decide) ?_
  refine lv_icmp_ne (tgt := 36) hx hb dX10_work_29 (by decide) (fun q38 => ?_) (fun q38 => ?_)
  rotate_left
  · replace hv := fnP hv q38
    have l67 := congrArg Int32.toInt q38
    have r68 : Rg x4 (-1) (-1) := Rg_both (Rg_any x4) (Rg_eqv q38 (Rg_c (x := (-1)) (a := (-1)) (b := (-1)) (by decide))) (by decide)
    refine lv_iconst (v := 1) hx hb dX10_work_32 (by decide) ?_
    refine lv_goto (tgt := 37) hx hb dX10_work_33 (by decide) ?_
    refine lv_istore (lv' := [(6, .int 1), (0, .ref a0), (1, .int x1), (2, .int x2), (3, .int x3), (4, .int x4), (5, .int x5)]) hx hb dX10_work_37 hl (by decide) rfl (fun ls hl => ?_)
    refine lv_iload hx hb dX10_work_39 (lv_at hl 0 rfl) ?_
    refine lv_if_ne (tgt := 57) hx hb dX10_work_41 (by decide) (fun q69 => ?_) (fun q69 => ?_)
    rotate_left
    · exact absurd q69 (by decide)
    refine lv_iload_n hx hb dX10_work_57 rfl (lv_at hl 4 rfl) ?_
    refine lv_if_ne (tgt := 78) hx hb dX10_work_58 (by decide) (fun q70 => ?_) (fun q70 => ?_)
    · replace hv := fnN hv q70
      exact Rg_no (Rg_nehi r37 (Rg_ne q70) (Rg_c (x := 0) (a := (0)) (b := (0)) (by decide)) (b' := (-1)) (by decide)) (by decide)
    replace hv := fnP hv q70
    have l72 := congrArg Int32.toInt q70
    refine lv_iload hx hb dX10_work_61 (lv_at hl 6 rfl) ?_
    refine lv_sipush (v := (-1000)) hx hb dX10_work_63 (by decide) ?_
    refine lv_sipush (v := 1000) hx hb dX10_work_66 (by decide) ?_
    refine ca_X10_82 hx hb hml hown hts hH (c_X10_isWithin ) hl.1 (by decide) (Nat.le_of_ble_eq_true rfl) ⟨Nat.zero_le _, Nat.zero_le _⟩ dX10_work_69 (fun y73 I73 J73 R73 H locs hp hH => ?_)
    obtain ⟨eI73, eJ73, eR73, ry73, hp73, hf73⟩ := hp
    obtain rfl : I = I73 := eI73.symm
    obtain rfl : J = J73 := eJ73.symm
    obtain rfl : R = R73 := eR73.symm
    replace hv := fnS hv hf73.symm
    rcases hp73 with ⟨rfl, hq73⟩ | ⟨rfl, hq73⟩
    rotate_left
    · replace hv := fnN hv (by decide)
      refine lv_if_ne (tgt := 78) hx hb dX10_work_72 (by decide) (fun q88 => ?_) (fun q88 => ?_)
      · exact absurd rfl q88
      refine lv_bipush (v := (-3)) hx hb dX10_work_75 (by decide) ?_
      exact ret ((-3)) _ _ _ _ _ _ _ dX10_work_77 hH ⟨⟨oI, oR, sm⟩, rfl, rfl, (Rg_w (Rg_c (x := (-3)) (a := (-3)) (b := (-3)) (by decide)) (by decide)), (by exact hXM), (hT.symm.trans hv)⟩
    replace hv := fnP hv rfl
    have l74 := hq73.1
    have r75 : Rg x5 (-1000) (2147483647) := Rg_lle (Rg_any x5) l74 (Rg_c (x := (-1000)) (a := (-1000)) (b := (-1000)) (by decide)) (by decide)
    have l76 := hq73.2
    have r77 : Rg x5 (-1000) (1000) := Rg_ule r75 l76 (Rg_c (x := 1000) (a := (1000)) (b := (1000)) (by decide)) (by decide)
    refine lv_if_ne (tgt := 78) hx hb dX10_work_72 (by decide) (fun q78 => ?_) (fun q78 => ?_)
    rotate_left
    · exact absurd q78 (by decide)
    refine lv_aload_n hx hb dX10_work_78 rfl (lv_at hl 1 rfl) ?_
    obtain ⟨b79, mb79, vb79, kb79⟩ := rf_10_4 oR m0 k0
    replace hv := fnR hv vb79
    refine gf_10_4 vb79 hx hb hts hown hH m0 k0 rfl kf_X10_41 dX10_work_79 ?_
    refine lv_iload_n hx hb dX10_work_82 rfl (lv_at hl 2 rfl) ?_
    obtain ⟨b80, mb80, vb80, kb80⟩ := rr_57 oR mb79 kb79 (Rg_in r5 (by decide))
    replace hv := fnR hv vb80
    refine ld_57 hx hb hH mb79 kb79 (Rg_in r5 (by decide)) vb80 dX10_work_83 ?_
    refine lv_iload_n hx hb dX10_work_84 rfl (lv_at hl 3 rfl) ?_
    refine ca_X10_151 hx hb hml hown hts hH (c_X7_has oI oR mb80 kb80) hl.1 mb80 kb80 rfl (by decide) (Nat.le_of_ble_eq_true rfl) ⟨Nat.zero_le _, Nat.zero_le _⟩ dX10_work_85 (fun y81 I81 J81 R81 H locs hp hH => ?_)
    obtain ⟨eI81, eJ81, eR81, ry81, hp81, hf81⟩ := hp
    obtain rfl : I = I81 := eI81.symm
    obtain rfl : J = J81 := eJ81.symm
    obtain rfl : R = R81 := eR81.symm
    replace hv := fnS hv hf81.symm
    rcases hp81 with ⟨rfl, hq81⟩ | ⟨rfl, hq81⟩
    rotate_left
    · replace hv := fnN hv (by decide)
      refine lv_if_ne (tgt := 94) hx hb dX10_work_88 (by decide) (fun q87 => ?_) (fun q87 => ?_)
      · exact absurd rfl q87
      refine lv_bipush (v := (-2)) hx hb dX10_work_91 (by decide) ?_
      exact ret ((-2)) _ _ _ _ _ _ _ dX10_work_93 hH ⟨⟨oI, oR, sm⟩, rfl, rfl, (Rg_w (Rg_c (x := (-2)) (a := (-2)) (b := (-2)) (by decide)) (by decide)), (by exact hXM), (hT.symm.trans hv)⟩
    replace hv := fnP hv rfl
    have r82 : Rg x2 (0) (5) := ⟨by have h9 := (Rg_any x2).1; omega, by have h9 := (Rg_any x2).2; omega⟩
    refine lv_if_ne (tgt := 94) hx hb dX10_work_88 (by decide) (fun q83 => ?_) (fun q83 => ?_)
    rotate_left
    · exact absurd q83 (by decide)
    refine lv_aload_n hx hb dX10_work_94 rfl (lv_at hl 1 rfl) ?_
    refine gf_10_4 vb79 hx hb hts hown hH m0 k0 rfl kf_X10_41 dX10_work_95 ?_
    refine lv_iload_n hx hb dX10_work_98 rfl (lv_at hl 2 rfl) ?_
    refine ld_57 hx hb hH mb79 kb79 (Rg_in r5 (by decide)) vb80 dX10_work_99 ?_
    obtain ⟨b84, mb84, vb84, kb84⟩ := rf_7_0 oR mb80 kb80
    replace hv := fnR hv vb84
    refine gf_7_0 vb84 hx hb hts hown hH mb80 kb80 rfl kf_X10_154 dX10_work_100 ?_
    refine lv_iload_n hx hb dX10_work_103 rfl (lv_at hl 3 rfl) ?_
    obtain ⟨b85, mb85, vb85, kb85⟩ := rr_56 oR mb84 kb84 (Rg_in r82 (by decide))
    replace hv := fnR hv vb85
    refine ld_56 hx hb hH mb84 kb84 (Rg_in r82 (by decide)) vb85 dX10_work_104 ?_
    refine lv_iload_n hx hb dX10_work_105 rfl (lv_at hl 4 rfl) ?_
    refine lv_iload hx hb dX10_work_106 (lv_at hl 5 rfl) ?_
    refine lv_iload hx hb dX10_work_108 (lv_at hl 6 rfl) ?_
    refine ca_X10_158 hx hb hml hown hts hH (c_X5_setWork oI oR mb85 kb85 (Rg_w r37 (by decide)) (Rg_w r68 (by decide)) (by exact hXM) (by exact fun h => absurd (Rg_eq r37) h)) hl.1 mb85 kb85 rfl (by decide) (Nat.le_of_ble_eq_true rfl) ⟨Nat.zero_le _, Nat.zero_le _⟩ dX10_work_110 (fun I86 J86 R86 H locs hp hH => ?_)
    obtain ⟨⟨oI, -, sc86⟩, eJ86, eR86, hp86, hf86⟩ := hp
    obtain rfl : J = J86 := eJ86.symm
    obtain rfl : R = R86 := eR86.symm
    replace hv := fnW hv hf86
    have sm : Sm C ms_X10_work (I, J, R) (I86, J, R) := sm.tr sc86 rfl
    refine lv_iconst (v := 0) hx hb dX10_work_113 (by decide) ?_
    exact ret (0) _ _ _ _ _ _ _ dX10_work_114 hH ⟨⟨oI, oR, sm⟩, rfl, rfl, (Rg_w (Rg_c (x := 0) (a := (0)) (b := (0)) (by decide)) (by decide)), (by exact hp86), (hT.symm.trans hv)⟩
  replace hv := fnN hv q38
  have l39 := Rg_ne q38
  refine lv_iconst (v := 0) hx hb dX10_work_36 (by decide) ?_
  refine lv_istore (lv' := [(6, .int 0), (0, .ref a0), (1, .int x1), (2, .int x2), (3, .int x3), (4, .int x4), (5, .int x5)]) hx hb dX10_work_37 hl (by decide) rfl (fun ls hl => ?_)
  refine lv_iload hx hb dX10_work_39 (lv_at hl 0 rfl) ?_
  refine lv_if_ne (tgt := 57) hx hb dX10_work_41 (by decide) (fun q40 => ?_) (fun q40 => ?_)
  · exact absurd rfl q40
  refine lv_iload hx hb dX10_work_44 (lv_at hl 5 rfl) ?_
  refine lv_iconst (v := 0) hx hb dX10_work_46 (by decide) ?_
  refine lv_iconst (v := 2) hx hb dX10_work_47 (by decide) ?_
  refine ca_X10_82 hx hb hml hown hts hH (c_X10_isWithin ) hl.1 (by decide) (Nat.le_of_ble_eq_true rfl) ⟨Nat.zero_le _, Nat.zero_le _⟩ dX10_work_48 (fun y41 I41 J41 R41 H locs hp hH => ?_)
  obtain ⟨eI41, eJ41, eR41, ry41, hp41, hf41⟩ := hp
  obtain rfl : I = I41 := eI41.symm
  obtain rfl : J = J41 := eJ41.symm
  obtain rfl : R = R41 := eR41.symm
  replace hv := fnS hv hf41.symm
  rcases hp41 with ⟨rfl, hq41⟩ | ⟨rfl, hq41⟩
  rotate_left
  · replace hv := fnN hv (by decide)
    refine lv_if_ne (tgt := 57) hx hb dX10_work_51 (by decide) (fun q66 => ?_) (fun q66 => ?_)
    · exact absurd rfl q66
    refine lv_bipush (v := (-3)) hx hb dX10_work_54 (by decide) ?_
    exact ret ((-3)) _ _ _ _ _ _ _ dX10_work_56 hH ⟨⟨oI, oR, sm⟩, rfl, rfl, (Rg_w (Rg_c (x := (-3)) (a := (-3)) (b := (-3)) (by decide)) (by decide)), (by exact hXM), (hT.symm.trans hv)⟩
  replace hv := fnP hv rfl
  have l42 := hq41.1
  have r43 : Rg x4 (0) (2147483647) := Rg_lle (Rg_any x4) l42 (Rg_c (x := 0) (a := (0)) (b := (0)) (by decide)) (by decide)
  have l44 := hq41.2
  have r45 : Rg x4 (0) (2) := Rg_ule r43 l44 (Rg_c (x := 2) (a := (2)) (b := (2)) (by decide)) (by decide)
  refine lv_if_ne (tgt := 57) hx hb dX10_work_51 (by decide) (fun q46 => ?_) (fun q46 => ?_)
  rotate_left
  · exact absurd q46 (by decide)
  refine lv_iload_n hx hb dX10_work_57 rfl (lv_at hl 4 rfl) ?_
  refine lv_if_ne (tgt := 78) hx hb dX10_work_58 (by decide) (fun q47 => ?_) (fun q47 => ?_)
  · replace hv := fnN hv q47
    exact Rg_no (Rg_nehi r37 (Rg_ne q47) (Rg_c (x := 0) (a := (0)) (b := (0)) (by decide)) (b' := (-1)) (by decide)) (by decide)
  replace hv := fnP hv q47
  have l49 := congrArg Int32.toInt q47
  refine lv_iload hx hb dX10_work_61 (lv_at hl 6 rfl) ?_
  refine lv_sipush (v := (-1000)) hx hb dX10_work_63 (by decide) ?_
  refine lv_sipush (v := 1000) hx hb dX10_work_66 (by decide) ?_
  refine ca_X10_82 hx hb hml hown hts hH (c_X10_isWithin ) hl.1 (by decide) (Nat.le_of_ble_eq_true rfl) ⟨Nat.zero_le _, Nat.zero_le _⟩ dX10_work_69 (fun y50 I50 J50 R50 H locs hp hH => ?_)
  obtain ⟨eI50, eJ50, eR50, ry50, hp50, hf50⟩ := hp
  obtain rfl : I = I50 := eI50.symm
  obtain rfl : J = J50 := eJ50.symm
  obtain rfl : R = R50 := eR50.symm
  replace hv := fnS hv hf50.symm
  rcases hp50 with ⟨rfl, hq50⟩ | ⟨rfl, hq50⟩
  rotate_left
  · replace hv := fnN hv (by decide)
    refine lv_if_ne (tgt := 78) hx hb dX10_work_72 (by decide) (fun q65 => ?_) (fun q65 => ?_)
    · exact absurd rfl q65
    refine lv_bipush (v := (-3)) hx hb dX10_work_75 (by decide) ?_
    exact ret ((-3)) _ _ _ _ _ _ _ dX10_work_77 hH ⟨⟨oI, oR, sm⟩, rfl, rfl, (Rg_w (Rg_c (x := (-3)) (a := (-3)) (b := (-3)) (by decide)) (by decide)), (by exact hXM), (hT.symm.trans hv)⟩
  replace hv := fnP hv rfl
  have l51 := hq50.1
  have r52 : Rg x5 (-1000) (2147483647) := Rg_lle (Rg_any x5) l51 (Rg_c (x := (-1000)) (a := (-1000)) (b := (-1000)) (by decide)) (by decide)
  have l53 := hq50.2
  have r54 : Rg x5 (-1000) (1000) := Rg_ule r52 l53 (Rg_c (x := 1000) (a := (1000)) (b := (1000)) (by decide)) (by decide)
  refine lv_if_ne (tgt := 78) hx hb dX10_work_72 (by decide) (fun q55 => ?_) (fun q55 => ?_)
  rotate_left
  · exact absurd q55 (by decide)
  refine lv_aload_n hx hb dX10_work_78 rfl (lv_at hl 1 rfl) ?_
  obtain ⟨b56, mb56, vb56, kb56⟩ := rf_10_4 oR m0 k0
  replace hv := fnR hv vb56
  refine gf_10_4 vb56 hx hb hts hown hH m0 k0 rfl kf_X10_41 dX10_work_79 ?_
  refine lv_iload_n hx hb dX10_work_82 rfl (lv_at hl 2 rfl) ?_
  obtain ⟨b57, mb57, vb57, kb57⟩ := rr_57 oR mb56 kb56 (Rg_in r5 (by decide))
  replace hv := fnR hv vb57
  refine ld_57 hx hb hH mb56 kb56 (Rg_in r5 (by decide)) vb57 dX10_work_83 ?_
  refine lv_iload_n hx hb dX10_work_84 rfl (lv_at hl 3 rfl) ?_
  refine ca_X10_151 hx hb hml hown hts hH (c_X7_has oI oR mb57 kb57) hl.1 mb57 kb57 rfl (by decide) (Nat.le_of_ble_eq_true rfl) ⟨Nat.zero_le _, Nat.zero_le _⟩ dX10_work_85 (fun y58 I58 J58 R58 H locs hp hH => ?_)
  obtain ⟨eI58, eJ58, eR58, ry58, hp58, hf58⟩ := hp
  obtain rfl : I = I58 := eI58.symm
  obtain rfl : J = J58 := eJ58.symm
  obtain rfl : R = R58 := eR58.symm
  replace hv := fnS hv hf58.symm
  rcases hp58 with ⟨rfl, hq58⟩ | ⟨rfl, hq58⟩
  rotate_left
  · replace hv := fnN hv (by decide)
    refine lv_if_ne (tgt := 94) hx hb dX10_work_88 (by decide) (fun q64 => ?_) (fun q64 => ?_)
    · exact absurd rfl q64
    refine lv_bipush (v := (-2)) hx hb dX10_work_91 (by decide) ?_
    exact ret ((-2)) _ _ _ _ _ _ _ dX10_work_93 hH ⟨⟨oI, oR, sm⟩, rfl, rfl, (Rg_w (Rg_c (x := (-2)) (a := (-2)) (b := (-2)) (by decide)) (by decide)), (by exact hXM), (hT.symm.trans hv)⟩
  replace hv := fnP hv rfl
  have r59 : Rg x2 (0) (5) := ⟨by have h9 := (Rg_any x2).1; omega, by have h9 := (Rg_any x2).2; omega⟩
  refine lv_if_ne (tgt := 94) hx hb dX10_work_88 (by decide) (fun q60 => ?_) (fun q60 => ?_)
  rotate_left
  · exact absurd q60 (by decide)
  refine lv_aload_n hx hb dX10_work_94 rfl (lv_at hl 1 rfl) ?_
  refine gf_10_4 vb56 hx hb hts hown hH m0 k0 rfl kf_X10_41 dX10_work_95 ?_
  refine lv_iload_n hx hb dX10_work_98 rfl (lv_at hl 2 rfl) ?_
  refine ld_57 hx hb hH mb56 kb56 (Rg_in r5 (by decide)) vb57 dX10_work_99 ?_
  obtain ⟨b61, mb61, vb61, kb61⟩ := rf_7_0 oR mb57 kb57
  replace hv := fnR hv vb61
  refine gf_7_0 vb61 hx hb hts hown hH mb57 kb57 rfl kf_X10_154 dX10_work_100 ?_
  refine lv_iload_n hx hb dX10_work_103 rfl (lv_at hl 3 rfl) ?_
  obtain ⟨b62, mb62, vb62, kb62⟩ := rr_56 oR mb61 kb61 (Rg_in r59 (by decide))
  replace hv := fnR hv vb62
  refine ld_56 hx hb hH mb61 kb61 (Rg_in r59 (by decide)) vb62 dX10_work_104 ?_
  refine lv_iload_n hx hb dX10_work_105 rfl (lv_at hl 4 rfl) ?_
  refine lv_iload hx hb dX10_work_106 (lv_at hl 5 rfl) ?_
  refine lv_iload hx hb dX10_work_108 (lv_at hl 6 rfl) ?_
  refine ca_X10_158 hx hb hml hown hts hH (c_X5_setWork oI oR mb62 kb62 (Rg_w r37 (by decide)) (Rg_w r45 (by decide)) (by exact hXM) (by exact fun h => absurd (Rg_eq r37) h)) hl.1 mb62 kb62 rfl (by decide) (Nat.le_of_ble_eq_true rfl) ⟨Nat.zero_le _, Nat.zero_le _⟩ dX10_work_110 (fun I63 J63 R63 H locs hp hH => ?_)
  obtain ⟨⟨oI, -, sc63⟩, eJ63, eR63, hp63, hf63⟩ := hp
  obtain rfl : J = J63 := eJ63.symm
  obtain rfl : R = R63 := eR63.symm
  replace hv := fnW hv hf63
  have sm : Sm C ms_X10_work (I, J, R) (I63, J, R) := sm.tr sc63 rfl
  refine lv_iconst (v := 0) hx hb dX10_work_113 (by decide) ?_
  exact ret (0) _ _ _ _ _ _ _ dX10_work_114 hH ⟨⟨oI, oR, sm⟩, rfl, rfl, (Rg_w (Rg_c (x := 0) (a := (0)) (b := (0)) (by decide)) (by decide)), (by exact hp63), (hT.symm.trans hv)⟩
noncomputable def F_X10_times (a0 : Nat) (x1 : Int32) (x2 : Int32) (x3 : Int32) (x4 : Int32) (I : hI) (J : hJ) (R : hR) : Int32 × hU :=
  nm (F_X10_isWithin x1 (0 : Int32) (9 : Int32)) fun y1 => (if y1 = (1 : Int32) then nm ((R a0 4).getD 0) fun b7 => nm ((R b7 (Int32.toNatClampNeg x1)).getD 0) fun b8 => nm (F_X7_has b8 x2 I J R) fun y9 => (if y9 = (1 : Int32) then nm ((R b8 0).getD 0) fun b12 => nm ((R b12 (Int32.toNatClampNeg x2)).getD 0) fun b13 => nm (I b13 2) fun y14 => nm (y14 - (1 : Int32)) fun y15 => nm (F_X10_isWithin x3 (0 : Int32) y15) fun y16 => (if y16 = (1 : Int32) then nm (F_X10_isWithin x4 (-1000 : Int32) (1000 : Int32)) fun y24 => (if y24 = (1 : Int32) then nm ((R b13 7).getD 0) fun b30 => nm (I b30 (Int32.toNatClampNeg x3)) fun y31 => nm (u2 I b30 (Int32.toNatClampNeg x3) x4) fun I32 => (y31, (I32, J, R)) else ((-3 : Int32), (I, J, R))) else ((-3 : Int32), (I, J, R))) else ((-2 : Int32), (I, J, R))) else ((-3 : Int32), (I, J, R)))
def ms_X10_times : List Nat := [3520]
set_option maxHeartbeats 4000000 in
set_option maxRecDepth 100000 in
theorem c_X10_times {l : Launch} {D : va_G} {cy : Nat → ClassId} {L : List Nat} {C : Nat → Nat} {b0 : Nat} {I : hI} {J : hJ} {R : hR} {a0 : Nat} {x1 : Int32} {x2 : Int32} {x3 : Int32} {x4 : Int32} (oI : OkI L C I) (oR : OkR L C R) (m0 : a0 ∈ L) (k0 : C a0 = 10) : CI l yX10_times cX10_times 7 .int 2 D cy L C b0 [.ref a0, .int x1, .int x2, .int x3, .int x4] (I, J, R) (fun r v => Ps L C ms_X10_times (I, J, R) v ∧ v.2.1 = J ∧ v.2.2 = R ∧ Rg r (-1000) (1000) ∧ F_X10_times a0 x1 x2 x3 x4 I J R = (r, v)) := by
  refine CI.mkI (plainFor_of_name (by decide)) (Nat.le_of_ble_eq_true rfl) ?_
  intro p e s m args below meth c ls Q hF ret hH hl
  obtain ⟨hx, hb, -, hml, hown, hts, -⟩ := hF
  have hl : lv_has ls 7 [(0, .ref a0), (1, .int x1), (2, .int x2), (3, .int x3), (4, .int x4)] := hl
  have hH : Hp D cy L C b0 s s.heap I J R s.heap [] := hH
  have sm : Sm C ms_X10_times (I, J, R) (I, J, R) := Sm.rf
  obtain ⟨TT0, hT⟩ : ∃ TT0, TT0 = F_X10_times a0 x1 x2 x3 x4 I J R := ⟨_, rfl⟩
  have hv := hT
  unfold F_X10_times at hv
  refine lv_iload_n hx hb dX10_times_0 rfl (lv_at hl 1 rfl) ?_
  refine lv_iconst (v := 0) hx hb dX10_times_1 (by decide) ?_
  refine lv_bipush (v := 9) hx hb dX10_times_2 (by decide) ?_
  refine ca_X10_82 hx hb hml hown hts hH (c_X10_isWithin ) hl.1 (by decide) (Nat.le_of_ble_eq_true rfl) ⟨Nat.zero_le _, Nat.zero_le _⟩ dX10_times_4 (fun y1 I1 J1 R1 H locs hp hH => ?_)
  obtain ⟨eI1, eJ1, eR1, ry1, hp1, hf1⟩ := hp
  obtain rfl : I = I1 := eI1.symm
  obtain rfl : J = J1 := eJ1.symm
  obtain rfl : R = R1 := eR1.symm
  replace hv := fnS hv hf1.symm
  rcases hp1 with ⟨rfl, hq1⟩ | ⟨rfl, hq1⟩
  rotate_left
  · replace hv := fnN hv (by decide)
    refine lv_if_ne (tgt := 13) hx hb dX10_times_7 (by decide) (fun q36 => ?_) (fun q36 => ?_)
    · exact absurd rfl q36
    refine lv_bipush (v := (-3)) hx hb dX10_times_10 (by decide) ?_
    exact ret ((-3)) _ _ _ _ _ _ _ dX10_times_12 hH ⟨⟨oI, oR, sm⟩, rfl, rfl, (Rg_w (Rg_c (x := (-3)) (a := (-3)) (b := (-3)) (by decide)) (by decide)), (hT.symm.trans hv)⟩
  replace hv := fnP hv rfl
  have l2 := hq1.1
  have r3 : Rg x1 (0) (2147483647) := Rg_lle (Rg_any x1) l2 (Rg_c (x := 0) (a := (0)) (b := (0)) (by decide)) (by decide)
  have l4 := hq1.2
  have r5 : Rg x1 (0) (9) := Rg_ule r3 l4 (Rg_c (x := 9) (a := (9)) (b := (9)) (by decide)) (by decide)
  refine lv_if_ne (tgt := 13) hx hb dX10_times_7 (by decide) (fun q6 => ?_) (fun q6 => ?_)
  rotate_left
  · exact absurd q6 (by decide)
  refine lv_aload_n hx hb dX10_times_13 rfl (lv_at hl 0 rfl) ?_
  obtain ⟨b7, mb7, vb7, kb7⟩ := rf_10_4 oR m0 k0
  replace hv := fnR hv vb7
  refine gf_10_4 vb7 hx hb hts hown hH m0 k0 rfl kf_X10_41 dX10_times_14 ?_
  refine lv_iload_n hx hb dX10_times_17 rfl (lv_at hl 1 rfl) ?_
  obtain ⟨b8, mb8, vb8, kb8⟩ := rr_57 oR mb7 kb7 (Rg_in r5 (by decide))
  replace hv := fnR hv vb8
  refine ld_57 hx hb hH mb7 kb7 (Rg_in r5 (by decide)) vb8 dX10_times_18 ?_
  refine lv_iload_n hx hb dX10_times_19 rfl (lv_at hl 2 rfl) ?_
  refine ca_X10_151 hx hb hml hown hts hH (c_X7_has oI oR mb8 kb8) hl.1 mb8 kb8 rfl (by decide) (Nat.le_of_ble_eq_true rfl) ⟨Nat.zero_le _, Nat.zero_le _⟩ dX10_times_20 (fun y9 I9 J9 R9 H locs hp hH => ?_)
  obtain ⟨eI9, eJ9, eR9, ry9, hp9, hf9⟩ := hp
  obtain rfl : I = I9 := eI9.symm
  obtain rfl : J = J9 := eJ9.symm
  obtain rfl : R = R9 := eR9.symm
  replace hv := fnS hv hf9.symm
  rcases hp9 with ⟨rfl, hq9⟩ | ⟨rfl, hq9⟩
  rotate_left
  · replace hv := fnN hv (by decide)
    refine lv_if_ne (tgt := 29) hx hb dX10_times_23 (by decide) (fun q35 => ?_) (fun q35 => ?_)
    · exact absurd rfl q35
    refine lv_bipush (v := (-2)) hx hb dX10_times_26 (by decide) ?_
    exact ret ((-2)) _ _ _ _ _ _ _ dX10_times_28 hH ⟨⟨oI, oR, sm⟩, rfl, rfl, (Rg_w (Rg_c (x := (-2)) (a := (-2)) (b := (-2)) (by decide)) (by decide)), (hT.symm.trans hv)⟩
  replace hv := fnP hv rfl
  have r10 : Rg x2 (0) (5) := ⟨by have h9 := (Rg_any x2).1; omega, by have h9 := (Rg_any x2).2; omega⟩
  refine lv_if_ne (tgt := 29) hx hb dX10_times_23 (by decide) (fun q11 => ?_) (fun q11 => ?_)
  rotate_left
  · exact absurd q11 (by decide)
  refine lv_aload_n hx hb dX10_times_29 rfl (lv_at hl 0 rfl) ?_
  refine gf_10_4 vb7 hx hb hts hown hH m0 k0 rfl kf_X10_41 dX10_times_30 ?_
  refine lv_iload_n hx hb dX10_times_33 rfl (lv_at hl 1 rfl) ?_
  refine ld_57 hx hb hH mb7 kb7 (Rg_in r5 (by decide)) vb8 dX10_times_34 ?_
  obtain ⟨b12, mb12, vb12, kb12⟩ := rf_7_0 oR mb8 kb8
  replace hv := fnR hv vb12
  refine gf_7_0 vb12 hx hb hts hown hH mb8 kb8 rfl kf_X10_154 dX10_times_35 ?_
  refine lv_iload_n hx hb dX10_times_38 rfl (lv_at hl 2 rfl) ?_
  obtain ⟨b13, mb13, vb13, kb13⟩ := rr_56 oR mb12 kb12 (Rg_in r10 (by decide))
  replace hv := fnR hv vb13
  refine ld_56 hx hb hH mb12 kb12 (Rg_in r10 (by decide)) vb13 dX10_times_39 ?_
  refine lv_astore (lv' := [(5, .ref b13), (0, .ref a0), (1, .int x1), (2, .int x2), (3, .int x3), (4, .int x4)]) hx hb dX10_times_40 hl (by decide) rfl (fun ls hl => ?_)
  refine lv_iload_n hx hb dX10_times_42 rfl (lv_at hl 4 rfl) ?_
  refine lv_iconst (v := 0) hx hb dX10_times_43 (by decide) ?_
  refine lv_aload hx hb dX10_times_44 (lv_at hl 0 rfl) ?_
  refine gf_5_2 hx hb hts hown hH mb13 kb13 rfl kf_X10_164 dX10_times_46 ?_
  refine lv_topi (fun y14 ey14 => ?_)
  have ry14 : Rg y14 (0) (4) := by rw [ey14]; exact rf_5_2 oI mb13 kb13
  replace hv := fnS hv ey14
  refine lv_iconst (v := 1) hx hb dX10_times_49 (by decide) ?_
  refine lv_isub hx hb dX10_times_50 ?_
  refine lv_topi (fun y15 ey15 => ?_)
  replace hv := fnS hv ey15
  obtain ⟨ty15, ry15⟩ := Rg_subx (a' := (-1)) (b' := (3)) (rfl : y14.toInt = _) (by decide : Int32.toInt 1 = 1) ry14 (Rg_c (x := 1) (a := (1)) (b := (1)) (by decide)) (by decide)
  rw [← ey15] at ty15 ry15
  refine ca_X10_82 hx hb hml hown hts hH (c_X10_isWithin ) hl.1 (by decide) (Nat.le_of_ble_eq_true rfl) ⟨Nat.zero_le _, Nat.zero_le _⟩ dX10_times_51 (fun y16 I16 J16 R16 H locs hp hH => ?_)
  obtain ⟨eI16, eJ16, eR16, ry16, hp16, hf16⟩ := hp
  obtain rfl : I = I16 := eI16.symm
  obtain rfl : J = J16 := eJ16.symm
  obtain rfl : R = R16 := eR16.symm
  replace hv := fnS hv hf16.symm
  rcases hp16 with ⟨rfl, hq16⟩ | ⟨rfl, hq16⟩
  rotate_left
  · replace hv := fnN hv (by decide)
    refine lv_if_eq (tgt := 71) hx hb dX10_times_54 (by decide) (fun q34 => ?_) (fun q34 => ?_)
    rotate_left
    · exact absurd rfl q34
    refine lv_bipush (v := (-3)) hx hb dX10_times_71 (by decide) ?_
    exact ret ((-3)) _ _ _ _ _ _ _ dX10_times_73 hH ⟨⟨oI, oR, sm⟩, rfl, rfl, (Rg_w (Rg_c (x := (-3)) (a := (-3)) (b := (-3)) (by decide)) (by decide)), (hT.symm.trans hv)⟩
  replace hv := fnP hv rfl
  have l17 := hq16.1
  have r18 : Rg x3 (0) (2147483647) := Rg_lle (Rg_any x3) l17 (Rg_c (x := 0) (a := (0)) (b := (0)) (by decide)) (by decide)
  have l19 := hq16.2
  have r20 : Rg x3 (0) (3) := Rg_ule r18 l19 ry15 (by decide)
  have r21 : Rg y15 (0) (3) := Rg_lle ry15 l19 r18 (by decide)
  have r22 : Rg y14 (1) (4) := by have a1 := r21.1; have a2 := r21.2; have a3 := ry14.1; have a4 := ry14.2; exact ⟨by omega, by omega⟩
  refine lv_if_eq (tgt := 71) hx hb dX10_times_54 (by decide) (fun q23 => ?_) (fun q23 => ?_)
  · exact absurd q23 (by decide)
  refine lv_iload hx hb dX10_times_57 (lv_at hl 5 rfl) ?_
  refine lv_sipush (v := (-1000)) hx hb dX10_times_59 (by decide) ?_
  refine lv_sipush (v := 1000) hx hb dX10_times_62 (by decide) ?_
  refine ca_X10_82 hx hb hml hown hts hH (c_X10_isWithin ) hl.1 (by decide) (Nat.le_of_ble_eq_true rfl) ⟨Nat.zero_le _, Nat.zero_le _⟩ dX10_times_65 (fun y24 I24 J24 R24 H locs hp hH => ?_)
  obtain ⟨eI24, eJ24, eR24, ry24, hp24, hf24⟩ := hp
  obtain rfl : I = I24 := eI24.symm
  obtain rfl : J = J24 := eJ24.symm
  obtain rfl : R = R24 := eR24.symm
  replace hv := fnS hv hf24.symm
  rcases hp24 with ⟨rfl, hq24⟩ | ⟨rfl, hq24⟩
  rotate_left
  · replace hv := fnN hv (by decide)
    refine lv_if_ne (tgt := 74) hx hb dX10_times_68 (by decide) (fun q33 => ?_) (fun q33 => ?_)
    · exact absurd rfl q33
    refine lv_bipush (v := (-3)) hx hb dX10_times_71 (by decide) ?_
    exact ret ((-3)) _ _ _ _ _ _ _ dX10_times_73 hH ⟨⟨oI, oR, sm⟩, rfl, rfl, (Rg_w (Rg_c (x := (-3)) (a := (-3)) (b := (-3)) (by decide)) (by decide)), (hT.symm.trans hv)⟩
  replace hv := fnP hv rfl
  have l25 := hq24.1
  have r26 : Rg x4 (-1000) (2147483647) := Rg_lle (Rg_any x4) l25 (Rg_c (x := (-1000)) (a := (-1000)) (b := (-1000)) (by decide)) (by decide)
  have l27 := hq24.2
  have r28 : Rg x4 (-1000) (1000) := Rg_ule r26 l27 (Rg_c (x := 1000) (a := (1000)) (b := (1000)) (by decide)) (by decide)
  refine lv_if_ne (tgt := 74) hx hb dX10_times_68 (by decide) (fun q29 => ?_) (fun q29 => ?_)
  rotate_left
  · exact absurd q29 (by decide)
  refine lv_aload hx hb dX10_times_74 (lv_at hl 0 rfl) ?_
  obtain ⟨b30, mb30, vb30, kb30⟩ := rf_5_7 oR mb13 kb13
  replace hv := fnR hv vb30
  refine gf_5_7 vb30 hx hb hts hown hH mb13 kb13 rfl kf_X10_167 dX10_times_76 ?_
  refine lv_iload_n hx hb dX10_times_79 rfl (lv_at hl 4 rfl) ?_
  refine ld_55 hx hb hH mb30 kb30 (Rg_in r20 (by decide)) dX10_times_80 ?_
  refine lv_topi (fun y31 ey31 => ?_)
  have ry31 : Rg y31 (-1000) (1000) := by rw [ey31]; exact rd_55 oI mb30 kb30 (Rg_in r20 (by decide))
  replace hv := fnS hv ey31
  refine lv_istore (lv' := [(6, .int y31), (5, .ref b13), (0, .ref a0), (1, .int x1), (2, .int x2), (3, .int x3), (4, .int x4)]) hx hb dX10_times_81 hl (by decide) rfl (fun ls hl => ?_)
  refine lv_aload hx hb dX10_times_83 (lv_at hl 1 rfl) ?_
  refine gf_5_7 vb30 hx hb hts hown hH mb13 kb13 rfl kf_X10_167 dX10_times_85 ?_
  refine lv_iload_n hx hb dX10_times_88 rfl (lv_at hl 5 rfl) ?_
  refine lv_iload hx hb dX10_times_89 (lv_at hl 6 rfl) ?_
  refine st_55 hx hb hH mb30 kb30 (Rg_in r20 (by decide)) dX10_times_91 (fun I32 H locs eI32 hH => ?_)
  replace hv := fnS hv eI32
  have oI : OkI L C I32 := by rw [eI32]; exact wr_55 oI kb30 r28
  have sm : Sm C ms_X10_times (I, J, R) (I32, J, R) := by rw [eI32]; exact sm.stI kb30 (mC_arr (by decide) rfl)
  refine lv_iload hx hb dX10_times_92 (lv_at hl 0 rfl) ?_
  exact ret (y31) _ _ _ _ _ _ _ dX10_times_94 hH ⟨⟨oI, oR, sm⟩, rfl, rfl, ry31, (hT.symm.trans hv)⟩
noncomputable def F_X10_strip (a0 : Nat) (x1 : Int32) (x2 : Int32) (I : hI) (J : hJ) (R : hR) : Int32 × hU :=
  (if x1 = (0 : Int32) then nm ((10 : Int32) - (1 : Int32)) fun y4 => nm (F_X10_isWithin x2 (0 : Int32) y4) fun y5 => (if y5 = (1 : Int32) then (if x1 = (0 : Int32) then nm ((R a0 4).getD 0) fun b13 => (if x1 = (0 : Int32) then nm ((R b13 (Int32.toNatClampNeg x2)).getD 0) fun b16 => nm (I b16 1) fun y17 => nm (u2 I b16 1 (0 : Int32)) fun I18 => (y17, (I18, J, R)) else default) else default) else ((-3 : Int32), (I, J, R))) else nm ((10 : Int32) - (1 : Int32)) fun y25 => nm (F_X10_isWithin x2 (0 : Int32) y25) fun y26 => (if y26 = (1 : Int32) then (if x1 = (0 : Int32) then default else nm ((R a0 5).getD 0) fun b35 => nmW (F_X9_forgetFace b35 x2 I J R) fun I36 _ _ => nm ((R a0 4).getD 0) fun b37 => (if x1 = (0 : Int32) then default else nm ((10 : Int32) + x2) fun y41 => nm ((R b37 (Int32.toNatClampNeg y41)).getD 0) fun b42 => nm (I36 b42 1) fun y43 => nm (u2 I36 b42 1 (0 : Int32)) fun I44 => (y43, (I44, J, R)))) else ((-3 : Int32), (I, J, R))))
def ms_X10_strip : List Nat := [449, 2880]
set_option maxHeartbeats 4000000 in
set_option maxRecDepth 100000 in
theorem c_X10_strip {l : Launch} {D : va_G} {cy : Nat → ClassId} {L : List Nat} {C : Nat → Nat} {b0 : Nat} {I : hI} {J : hJ} {R : hR} {a0 : Nat} {x1 : Int32} {x2 : Int32} (oI : OkI L C I) (oR : OkR L C R) (m0 : a0 ∈ L) (k0 : C a0 = 10) (h1 : Rg x1 (0) (1)) : CI l yX10_strip cX10_strip 5 .int 1 D cy L C b0 [.ref a0, .int x1, .int x2] (I, J, R) (fun r v => Ps L C ms_X10_strip (I, J, R) v ∧ v.2.1 = J ∧ v.2.2 = R ∧ Rg r (-3) (6) ∧ F_X10_strip a0 x1 x2 I J R = (r, v)) := by
  refine CI.mkI (plainFor_of_name (by decide)) (Nat.le_of_ble_eq_true rfl) ?_
  intro p e s m args below meth c ls Q hF ret hH hl
  obtain ⟨hx, hb, -, hml, hown, hts, -⟩ := hF
  have hl : lv_has ls 5 [(0, .ref a0), (1, .int x1), (2, .int x2)] := hl
  have hH : Hp D cy L C b0 s s.heap I J R s.heap [] := hH
  have sm : Sm C ms_X10_strip (I, J, R) (I, J, R) := Sm.rf
  obtain ⟨TT0, hT⟩ : ∃ TT0, TT0 = F_X10_strip a0 x1 x2 I J R := ⟨_, rfl⟩
  have hv := hT
  unfold F_X10_strip at hv
  refine lv_iload_n hx hb dX10_strip_0 rfl (lv_at hl 2 rfl) ?_
  refine lv_iconst (v := 0) hx hb dX10_strip_1 (by decide) ?_
  refine lv_iload_n hx hb dX10_strip_2 rfl (lv_at hl 1 rfl) ?_
  refine lv_if_eq (tgt := 11) hx hb dX10_strip_3 (by decide) (fun q1 => ?_) (fun q1 => ?_)
  · replace hv := fnP hv q1
    have l2 := congrArg Int32.toInt q1
    have r3 : Rg x1 (0) (0) := Rg_both h1 (Rg_eqv q1 (Rg_c (x := 0) (a := (0)) (b := (0)) (by decide))) (by decide)
    refine lv_bipush (v := 10) hx hb dX10_strip_11 (by decide) ?_
    refine lv_iconst (v := 1) hx hb dX10_strip_13 (by decide) ?_
    refine lv_isub hx hb dX10_strip_14 ?_
    refine lv_topi (fun y4 ey4 => ?_)
    replace hv := fnS hv ey4
    obtain ⟨ty4, ry4⟩ := Rg_subx (a' := (9)) (b' := (9)) (by decide : Int32.toInt 10 = 10) (by decide : Int32.toInt 1 = 1) (Rg_c (x := 10) (a := (10)) (b := (10)) (by decide)) (Rg_c (x := 1) (a := (1)) (b := (1)) (by decide)) (by decide)
    rw [← ey4] at ty4 ry4
    refine ca_X10_82 hx hb hml hown hts hH (c_X10_isWithin ) hl.1 (by decide) (Nat.le_of_ble_eq_true rfl) ⟨Nat.zero_le _, Nat.zero_le _⟩ dX10_strip_15 (fun y5 I5 J5 R5 H locs hp hH => ?_)
    obtain ⟨eI5, eJ5, eR5, ry5, hp5, hf5⟩ := hp
    obtain rfl : I = I5 := eI5.symm
    obtain rfl : J = J5 := eJ5.symm
    obtain rfl : R = R5 := eR5.symm
    replace hv := fnS hv hf5.symm
    rcases hp5 with ⟨rfl, hq5⟩ | ⟨rfl, hq5⟩
    rotate_left
    · replace hv := fnN hv (by decide)
      refine lv_if_ne (tgt := 24) hx hb dX10_strip_18 (by decide) (fun q22 => ?_) (fun q22 => ?_)
      · exact absurd rfl q22
      refine lv_bipush (v := (-3)) hx hb dX10_strip_21 (by decide) ?_
      exact ret ((-3)) _ _ _ _ _ _ _ dX10_strip_23 hH ⟨⟨oI, oR, sm⟩, rfl, rfl, (Rg_w (Rg_c (x := (-3)) (a := (-3)) (b := (-3)) (by decide)) (by decide)), (hT.symm.trans hv)⟩
    replace hv := fnP hv rfl
    have l6 := hq5.1
    have r7 : Rg x2 (0) (2147483647) := Rg_lle (Rg_any x2) l6 (Rg_c (x := 0) (a := (0)) (b := (0)) (by decide)) (by decide)
    have l8 := hq5.2
    have r9 : Rg x2 (0) (9) := Rg_ule r7 l8 ry4 (by decide)
    refine lv_if_ne (tgt := 24) hx hb dX10_strip_18 (by decide) (fun q10 => ?_) (fun q10 => ?_)
    rotate_left
    · exact absurd q10 (by decide)
    refine lv_iload_n hx hb dX10_strip_24 rfl (lv_at hl 1 rfl) ?_
    refine lv_if_eq (tgt := 36) hx hb dX10_strip_25 (by decide) (fun q11 => ?_) (fun q11 => ?_)
    rotate_left
    · replace hv := fnN hv q11
      exact Rg_no (Rg_nehi r3 (Rg_ne q11) (Rg_c (x := 0) (a := (0)) (b := (0)) (by decide)) (b' := (-1)) (by decide)) (by decide)
    replace hv := fnP hv q11
    have l12 := congrArg Int32.toInt q11
    refine lv_aload_n hx hb dX10_strip_36 rfl (lv_at hl 0 rfl) ?_
    obtain ⟨b13, mb13, vb13, kb13⟩ := rf_10_4 oR m0 k0
    replace hv := fnR hv vb13
    refine gf_10_4 vb13 hx hb hts hown hH m0 k0 rfl kf_X10_41 dX10_strip_37 ?_
    refine lv_iload_n hx hb dX10_strip_40 rfl (lv_at hl 1 rfl) ?_
    refine lv_if_eq (tgt := 51) hx hb dX10_strip_41 (by decide) (fun q14 => ?_) (fun q14 => ?_)
    rotate_left
    · replace hv := fnN hv q14
      exact Rg_no (Rg_nehi r3 (Rg_ne q14) (Rg_c (x := 0) (a := (0)) (b := (0)) (by decide)) (b' := (-1)) (by decide)) (by decide)
    replace hv := fnP hv q14
    have l15 := congrArg Int32.toInt q14
    refine lv_iload_n hx hb dX10_strip_51 rfl (lv_at hl 2 rfl) ?_
    obtain ⟨b16, mb16, vb16, kb16⟩ := rr_57 oR mb13 kb13 (Rg_in r9 (by decide))
    replace hv := fnR hv vb16
    refine ld_57 hx hb hH mb13 kb13 (Rg_in r9 (by decide)) vb16 dX10_strip_52 ?_
    refine lv_astore_n (lv' := [(3, .ref b16), (0, .ref a0), (1, .int x1), (2, .int x2)]) hx hb dX10_strip_53 rfl hl (by decide) rfl (fun ls hl => ?_)
    refine lv_aload_n hx hb dX10_strip_54 rfl (lv_at hl 0 rfl) ?_
    refine gf_7_1 hx hb hts hown hH mb16 kb16 rfl kf_X10_142 dX10_strip_55 ?_
    refine lv_topi (fun y17 ey17 => ?_)
    have ry17 : Rg y17 (0) (6) := by rw [ey17]; exact rf_7_1 oI mb16 kb16
    replace hv := fnS hv ey17
    refine lv_istore (lv' := [(4, .int y17), (3, .ref b16), (0, .ref a0), (1, .int x1), (2, .int x2)]) hx hb dX10_strip_58 hl (by decide) rfl (fun ls hl => ?_)
    refine lv_aload_n hx hb dX10_strip_60 rfl (lv_at hl 1 rfl) ?_
    refine lv_iconst (v := 0) hx hb dX10_strip_61 (by decide) ?_
    refine pf_7_1 hx hb hts hown hH mb16 kb16 rfl kf_X10_142 dX10_strip_62 (fun I18 H locs eI18 hH => ?_)
    replace hv := fnS hv eI18
    have oI : OkI L C I18 := by rw [eI18]; exact wf_7_1 oI kb16 (Rg_w (Rg_c (x := 0) (a := (0)) (b := (0)) (by decide)) (by decide))
    have sm : Sm C ms_X10_strip (I, J, R) (I18, J, R) := by rw [eI18]; exact sm.stI kb16 (mC_obj (by decide) rfl)
    have f19 : 0 = I18 b16 1 := by rw [eI18, u2_at]
    refine lv_iload hx hb dX10_strip_65 (lv_at hl 0 rfl) ?_
    exact ret (y17) _ _ _ _ _ _ _ dX10_strip_67 hH ⟨⟨oI, oR, sm⟩, rfl, rfl, (Rg_w ry17 (by decide)), (hT.symm.trans hv)⟩
  replace hv := fnN hv q1
  have l23 := Rg_ne q1
  have r24 : Rg x1 (1) (1) := Rg_nelo h1 (Rg_ne q1) (Rg_c (x := 0) (a := (0)) (b := (0)) (by decide)) (by decide)
  refine lv_bipush (v := 10) hx hb dX10_strip_6 (by decide) ?_
  refine lv_goto (tgt := 13) hx hb dX10_strip_8 (by decide) ?_
  refine lv_iconst (v := 1) hx hb dX10_strip_13 (by decide) ?_
  refine lv_isub hx hb dX10_strip_14 ?_
  refine lv_topi (fun y25 ey25 => ?_)
  replace hv := fnS hv ey25
  obtain ⟨ty25, ry25⟩ := Rg_subx (a' := (9)) (b' := (9)) (by decide : Int32.toInt 10 = 10) (by decide : Int32.toInt 1 = 1) (Rg_c (x := 10) (a := (10)) (b := (10)) (by decide)) (Rg_c (x := 1) (a := (1)) (b := (1)) (by decide)) (by decide)
  rw [← ey25] at ty25 ry25
  refine ca_X10_82 hx hb hml hown hts hH (c_X10_isWithin ) hl.1 (by decide) (Nat.le_of_ble_eq_true rfl) ⟨Nat.zero_le _, Nat.zero_le _⟩ dX10_strip_15 (fun y26 I26 J26 R26 H locs hp hH => ?_)
  obtain ⟨eI26, eJ26, eR26, ry26, hp26, hf26⟩ := hp
  obtain rfl : I = I26 := eI26.symm
  obtain rfl : J = J26 := eJ26.symm
  obtain rfl : R = R26 := eR26.symm
  replace hv := fnS hv hf26.symm
  rcases hp26 with ⟨rfl, hq26⟩ | ⟨rfl, hq26⟩
  rotate_left
  · replace hv := fnN hv (by decide)
    refine lv_if_ne (tgt := 24) hx hb dX10_strip_18 (by decide) (fun q46 => ?_) (fun q46 => ?_)
    · exact absurd rfl q46
    refine lv_bipush (v := (-3)) hx hb dX10_strip_21 (by decide) ?_
    exact ret ((-3)) _ _ _ _ _ _ _ dX10_strip_23 hH ⟨⟨oI, oR, sm⟩, rfl, rfl, (Rg_w (Rg_c (x := (-3)) (a := (-3)) (b := (-3)) (by decide)) (by decide)), (hT.symm.trans hv)⟩
  replace hv := fnP hv rfl
  have l27 := hq26.1
  have r28 : Rg x2 (0) (2147483647) := Rg_lle (Rg_any x2) l27 (Rg_c (x := 0) (a := (0)) (b := (0)) (by decide)) (by decide)
  have l29 := hq26.2
  have r30 : Rg x2 (0) (9) := Rg_ule r28 l29 ry25 (by decide)
  refine lv_if_ne (tgt := 24) hx hb dX10_strip_18 (by decide) (fun q31 => ?_) (fun q31 => ?_)
  rotate_left
  · exact absurd q31 (by decide)
  refine lv_iload_n hx hb dX10_strip_24 rfl (lv_at hl 1 rfl) ?_
  refine lv_if_eq (tgt := 36) hx hb dX10_strip_25 (by decide) (fun q32 => ?_) (fun q32 => ?_)
  · replace hv := fnP hv q32
    exact Rg_no (Rg_both r24 (Rg_eqv q32 (Rg_c (x := 0) (a := (0)) (b := (0)) (by decide))) (a' := (1)) (b' := (0)) (by decide)) (by decide)
  replace hv := fnN hv q32
  have l34 := Rg_ne q32
  refine lv_aload_n hx hb dX10_strip_28 rfl (lv_at hl 0 rfl) ?_
  obtain ⟨b35, mb35, vb35, kb35⟩ := rf_10_5 oR m0 k0
  replace hv := fnR hv vb35
  refine gf_10_5 vb35 hx hb hts hown hH m0 k0 rfl kf_X10_50 dX10_strip_29 ?_
  refine lv_iload_n hx hb dX10_strip_32 rfl (lv_at hl 2 rfl) ?_
  refine ca_X10_145 hx hb hml hown hts hH (c_X9_forgetFace oI oR mb35 kb35 r30) hl.1 mb35 kb35 rfl (by decide) (Nat.le_of_ble_eq_true rfl) ⟨Nat.zero_le _, Nat.zero_le _⟩ dX10_strip_33 (fun I36 J36 R36 H locs hp hH => ?_)
  obtain ⟨⟨oI, -, sc36⟩, eJ36, eR36, hf36⟩ := hp
  obtain rfl : J = J36 := eJ36.symm
  obtain rfl : R = R36 := eR36.symm
  replace hv := fnW hv hf36
  have sm : Sm C ms_X10_strip (I, J, R) (I36, J, R) := sm.tr sc36 rfl
  refine lv_aload_n hx hb dX10_strip_36 rfl (lv_at hl 0 rfl) ?_
  obtain ⟨b37, mb37, vb37, kb37⟩ := rf_10_4 oR m0 k0
  replace hv := fnR hv vb37
  refine gf_10_4 vb37 hx hb hts hown hH m0 k0 rfl kf_X10_41 dX10_strip_37 ?_
  refine lv_iload_n hx hb dX10_strip_40 rfl (lv_at hl 1 rfl) ?_
  refine lv_if_eq (tgt := 51) hx hb dX10_strip_41 (by decide) (fun q38 => ?_) (fun q38 => ?_)
  · replace hv := fnP hv q38
    exact Rg_no (Rg_both r24 (Rg_eqv q38 (Rg_c (x := 0) (a := (0)) (b := (0)) (by decide))) (a' := (1)) (b' := (0)) (by decide)) (by decide)
  replace hv := fnN hv q38
  have l40 := Rg_ne q38
  refine lv_bipush (v := 10) hx hb dX10_strip_44 (by decide) ?_
  refine lv_iload_n hx hb dX10_strip_46 rfl (lv_at hl 2 rfl) ?_
  refine lv_iadd hx hb dX10_strip_47 ?_
  refine lv_topi (fun y41 ey41 => ?_)
  replace hv := fnS hv ey41
  obtain ⟨ty41, ry41⟩ := Rg_addx (a' := (10)) (b' := (19)) (by decide : Int32.toInt 10 = 10) (rfl : x2.toInt = _) (Rg_c (x := 10) (a := (10)) (b := (10)) (by decide)) r30 (by decide)
  rw [← ey41] at ty41 ry41
  refine lv_goto (tgt := 52) hx hb dX10_strip_48 (by decide) ?_
  obtain ⟨b42, mb42, vb42, kb42⟩ := rr_57 oR mb37 kb37 (Rg_in ry41 (by decide))
  replace hv := fnR hv vb42
  refine ld_57 hx hb hH mb37 kb37 (Rg_in ry41 (by decide)) vb42 dX10_strip_52 ?_
  refine lv_astore_n (lv' := [(3, .ref b42), (0, .ref a0), (1, .int x1), (2, .int x2)]) hx hb dX10_strip_53 rfl hl (by decide) rfl (fun ls hl => ?_)
  refine lv_aload_n hx hb dX10_strip_54 rfl (lv_at hl 0 rfl) ?_
  refine gf_7_1 hx hb hts hown hH mb42 kb42 rfl kf_X10_142 dX10_strip_55 ?_
  refine lv_topi (fun y43 ey43 => ?_)
  have ry43 : Rg y43 (0) (6) := by rw [ey43]; exact rf_7_1 oI mb42 kb42
  replace hv := fnS hv ey43
  refine lv_istore (lv' := [(4, .int y43), (3, .ref b42), (0, .ref a0), (1, .int x1), (2, .int x2)]) hx hb dX10_strip_58 hl (by decide) rfl (fun ls hl => ?_)
  refine lv_aload_n hx hb dX10_strip_60 rfl (lv_at hl 1 rfl) ?_
  refine lv_iconst (v := 0) hx hb dX10_strip_61 (by decide) ?_
  refine pf_7_1 hx hb hts hown hH mb42 kb42 rfl kf_X10_142 dX10_strip_62 (fun I44 H locs eI44 hH => ?_)
  replace hv := fnS hv eI44
  have oI : OkI L C I44 := by rw [eI44]; exact wf_7_1 oI kb42 (Rg_w (Rg_c (x := 0) (a := (0)) (b := (0)) (by decide)) (by decide))
  have sm : Sm C ms_X10_strip (I, J, R) (I44, J, R) := by rw [eI44]; exact sm.stI kb42 (mC_obj (by decide) rfl)
  have f45 : 0 = I44 b42 1 := by rw [eI44, u2_at]
  refine lv_iload hx hb dX10_strip_65 (lv_at hl 0 rfl) ?_
  exact ret (y43) _ _ _ _ _ _ _ dX10_strip_67 hH ⟨⟨oI, oR, sm⟩, rfl, rfl, (Rg_w ry43 (by decide)), (hT.symm.trans hv)⟩
noncomputable def F_X10_alias (a0 : Nat) (x1 : Int32) (x2 : Int32) (x3 : Int32) (I : hI) (J : hJ) (R : hR) : Int32 × hU :=
  nm (F_X10_isName x1) fun y1 => (if y1 = (1 : Int32) then nm (F_X10_isName x2) fun y4 => (if y4 = (1 : Int32) then (if x1 = x2 then ((0 : Int32), (I, J, R)) else (if x3 = (0 : Int32) then nm ((R a0 1).getD 0) fun b12 => nmU (F_X0_remove b12 x1 x2 I J R) fun y13 I13 _ _ => (if y13 = (0 : Int32) then (y13, (I13, J, R)) else nm ((R a0 5).getD 0) fun b19 => nmW (F_X9_forgetAll b19 I13 J R) fun I20 _ _ => (y13, (I20, J, R))) else nm ((R a0 1).getD 0) fun b23 => nmU (F_X0_add b23 x1 x2 I J R) fun y24 I24 _ _ => (if y24 = (0 : Int32) then (y24, (I24, J, R)) else nm ((R a0 5).getD 0) fun b30 => nmW (F_X9_forgetAll b30 I24 J R) fun I31 _ _ => (y24, (I31, J, R))))) else ((0 : Int32), (I, J, R))) else ((0 : Int32), (I, J, R)))
def ms_X10_alias : List Nat := [1, 2560, 2880]
set_option maxHeartbeats 4000000 in
set_option maxRecDepth 100000 in
theorem c_X10_alias {l : Launch} {D : va_G} {cy : Nat → ClassId} {L : List Nat} {C : Nat → Nat} {b0 : Nat} {I : hI} {J : hJ} {R : hR} {a0 : Nat} {x1 : Int32} {x2 : Int32} {x3 : Int32} (oI : OkI L C I) (oR : OkR L C R) (m0 : a0 ∈ L) (k0 : C a0 = 10) (h3 : Rg x3 (0) (1)) : CI l yX10_alias cX10_alias 5 .boolean 3 D cy L C b0 [.ref a0, .int x1, .int x2, .int x3] (I, J, R) (fun r v => Ps L C ms_X10_alias (I, J, R) v ∧ v.2.1 = J ∧ v.2.2 = R ∧ Rg r (0) (1) ∧ F_X10_alias a0 x1 x2 x3 I J R = (r, v)) := by
  refine CI.mkZ (plainFor_of_name (by decide)) (Nat.le_of_ble_eq_true rfl) ?_
  intro p e s m args below meth c ls Q hF ret hH hl
  obtain ⟨hx, hb, -, hml, hown, hts, -⟩ := hF
  have hl : lv_has ls 5 [(0, .ref a0), (1, .int x1), (2, .int x2), (3, .int x3)] := hl
  have hH : Hp D cy L C b0 s s.heap I J R s.heap [] := hH
  have sm : Sm C ms_X10_alias (I, J, R) (I, J, R) := Sm.rf
  obtain ⟨TT0, hT⟩ : ∃ TT0, TT0 = F_X10_alias a0 x1 x2 x3 I J R := ⟨_, rfl⟩
  have hv := hT
  unfold F_X10_alias at hv
  refine lv_iload_n hx hb dX10_alias_0 rfl (lv_at hl 1 rfl) ?_
  refine ca_X10_136 hx hb hml hown hts hH (c_X10_isName ) hl.1 (by decide) (Nat.le_of_ble_eq_true rfl) ⟨Nat.zero_le _, Nat.zero_le _⟩ dX10_alias_1 (fun y1 I1 J1 R1 H locs hp hH => ?_)
  obtain ⟨eI1, eJ1, eR1, ry1, hp1, hf1⟩ := hp
  obtain rfl : I = I1 := eI1.symm
  obtain rfl : J = J1 := eJ1.symm
  obtain rfl : R = R1 := eR1.symm
  replace hv := fnS hv hf1.symm
  rcases hp1 with ⟨rfl, hq1⟩ | ⟨rfl, hq1⟩
  rotate_left
  · replace hv := fnN hv (by decide)
    refine lv_if_eq (tgt := 19) hx hb dX10_alias_4 (by decide) (fun q34 => ?_) (fun q34 => ?_)
    rotate_left
    · exact absurd rfl q34
    refine lv_iconst (v := 0) hx hb dX10_alias_19 (by decide) ?_
    exact ret (0) _ _ _ _ _ _ _ dX10_alias_20 hH (Rg_01 (Rg_w (Rg_c (x := 0) (a := (0)) (b := (0)) (by decide)) (by decide))) ⟨⟨oI, oR, sm⟩, rfl, rfl, (Rg_w (Rg_c (x := 0) (a := (0)) (b := (0)) (by decide)) (by decide)), (hT.symm.trans hv)⟩
  replace hv := fnP hv rfl
  have r2 : Rg x1 (0) (99) := ⟨by have h9 := (Rg_any x1).1; omega, by have h9 := (Rg_any x1).2; omega⟩
  refine lv_if_eq (tgt := 19) hx hb dX10_alias_4 (by decide) (fun q3 => ?_) (fun q3 => ?_)
  · exact absurd q3 (by decide)
  refine lv_iload_n hx hb dX10_alias_7 rfl (lv_at hl 2 rfl) ?_
  refine ca_X10_136 hx hb hml hown hts hH (c_X10_isName ) hl.1 (by decide) (Nat.le_of_ble_eq_true rfl) ⟨Nat.zero_le _, Nat.zero_le _⟩ dX10_alias_8 (fun y4 I4 J4 R4 H locs hp hH => ?_)
  obtain ⟨eI4, eJ4, eR4, ry4, hp4, hf4⟩ := hp
  obtain rfl : I = I4 := eI4.symm
  obtain rfl : J = J4 := eJ4.symm
  obtain rfl : R = R4 := eR4.symm
  replace hv := fnS hv hf4.symm
  rcases hp4 with ⟨rfl, hq4⟩ | ⟨rfl, hq4⟩
  rotate_left
  · replace hv := fnN hv (by decide)
    refine lv_if_eq (tgt := 19) hx hb dX10_alias_11 (by decide) (fun q33 => ?_) (fun q33 => ?_)
    rotate_left
    · exact absurd rfl q33
    refine lv_iconst (v := 0) hx hb dX10_alias_19 (by decide) ?_
    exact ret (0) _ _ _ _ _ _ _ dX10_alias_20 hH (Rg_01 (Rg_w (Rg_c (x := 0) (a := (0)) (b := (0)) (by decide)) (by decide))) ⟨⟨oI, oR, sm⟩, rfl, rfl, (Rg_w (Rg_c (x := 0) (a := (0)) (b := (0)) (by decide)) (by decide)), (hT.symm.trans hv)⟩
  replace hv := fnP hv rfl
  have r5 : Rg x2 (0) (99) := ⟨by have h9 := (Rg_any x2).1; omega, by have h9 := (Rg_any x2).2; omega⟩
  refine lv_if_eq (tgt := 19) hx hb dX10_alias_11 (by decide) (fun q6 => ?_) (fun q6 => ?_)
  · exact absurd q6 (by decide)
  refine lv_iload_n hx hb dX10_alias_14 rfl (lv_at hl 1 rfl) ?_
  refine lv_iload_n hx hb dX10_alias_15 rfl (lv_at hl 2 rfl) ?_
  refine lv_icmp_ne (tgt := 21) hx hb dX10_alias_16 (by decide) (fun q7 => ?_) (fun q7 => ?_)
  rotate_left
  · replace hv := fnP hv q7
    have l32 := congrArg Int32.toInt q7
    refine lv_iconst (v := 0) hx hb dX10_alias_19 (by decide) ?_
    exact ret (0) _ _ _ _ _ _ _ dX10_alias_20 hH (Rg_01 (Rg_w (Rg_c (x := 0) (a := (0)) (b := (0)) (by decide)) (by decide))) ⟨⟨oI, oR, sm⟩, rfl, rfl, (Rg_w (Rg_c (x := 0) (a := (0)) (b := (0)) (by decide)) (by decide)), (hT.symm.trans hv)⟩
  replace hv := fnN hv q7
  have l8 := Rg_ne q7
  refine lv_iload_n hx hb dX10_alias_21 rfl (lv_at hl 3 rfl) ?_
  refine lv_if_eq (tgt := 37) hx hb dX10_alias_22 (by decide) (fun q9 => ?_) (fun q9 => ?_)
  · replace hv := fnP hv q9
    have l10 := congrArg Int32.toInt q9
    have r11 : Rg x3 (0) (0) := Rg_both h3 (Rg_eqv q9 (Rg_c (x := 0) (a := (0)) (b := (0)) (by decide))) (by decide)
    refine lv_aload_n hx hb dX10_alias_37 rfl (lv_at hl 0 rfl) ?_
    obtain ⟨b12, mb12, vb12, kb12⟩ := rf_10_1 oR m0 k0
    replace hv := fnR hv vb12
    refine gf_10_1 vb12 hx hb hts hown hH m0 k0 rfl kf_X10_19 dX10_alias_38 ?_
    refine lv_iload_n hx hb dX10_alias_41 rfl (lv_at hl 1 rfl) ?_
    refine lv_iload_n hx hb dX10_alias_42 rfl (lv_at hl 2 rfl) ?_
    refine ca_X10_174 hx hb hml hown hts hH (c_X0_remove oI oR mb12 kb12) hl.1 mb12 kb12 rfl (by decide) (Nat.le_of_ble_eq_true rfl) ⟨Nat.zero_le _, Nat.zero_le _⟩ dX10_alias_43 (fun y13 I13 J13 R13 H locs hp hH => ?_)
    obtain ⟨⟨oI, -, sc13⟩, eJ13, eR13, ry13, hf13⟩ := hp
    obtain rfl : J = J13 := eJ13.symm
    obtain rfl : R = R13 := eR13.symm
    replace hv := fnC hv hf13
    have sm : Sm C ms_X10_alias (I, J, R) (I13, J, R) := sm.tr sc13 rfl
    refine lv_istore (lv' := [(4, .int y13), (0, .ref a0), (1, .int x1), (2, .int x2), (3, .int x3)]) hx hb dX10_alias_46 hl (by decide) rfl (fun ls hl => ?_)
    refine lv_iload hx hb dX10_alias_48 (lv_at hl 0 rfl) ?_
    refine lv_if_eq (tgt := 60) hx hb dX10_alias_50 (by decide) (fun q14 => ?_) (fun q14 => ?_)
    · replace hv := fnP hv q14
      have l15 := congrArg Int32.toInt q14
      have r16 : Rg y13 (0) (0) := Rg_both ry13 (Rg_eqv q14 (Rg_c (x := 0) (a := (0)) (b := (0)) (by decide))) (by decide)
      refine lv_iload hx hb dX10_alias_60 (lv_at hl 0 rfl) ?_
      exact ret (y13) _ _ _ _ _ _ _ dX10_alias_62 hH (Rg_01 (Rg_w r16 (by decide))) ⟨⟨oI, oR, sm⟩, rfl, rfl, (Rg_w r16 (by decide)), (hT.symm.trans hv)⟩
    replace hv := fnN hv q14
    have l17 := Rg_ne q14
    have r18 : Rg y13 (1) (1) := Rg_nelo ry13 (Rg_ne q14) (Rg_c (x := 0) (a := (0)) (b := (0)) (by decide)) (by decide)
    refine lv_aload_n hx hb dX10_alias_53 rfl (lv_at hl 1 rfl) ?_
    obtain ⟨b19, mb19, vb19, kb19⟩ := rf_10_5 oR m0 k0
    replace hv := fnR hv vb19
    refine gf_10_5 vb19 hx hb hts hown hH m0 k0 rfl kf_X10_50 dX10_alias_54 ?_
    refine ca_X10_90 hx hb hml hown hts hH (c_X9_forgetAll oI oR mb19 kb19) hl.1 mb19 kb19 rfl (by decide) (Nat.le_of_ble_eq_true rfl) ⟨Nat.zero_le _, Nat.zero_le _⟩ dX10_alias_57 (fun I20 J20 R20 H locs hp hH => ?_)
    obtain ⟨⟨oI, -, sc20⟩, eJ20, eR20, hf20⟩ := hp
    obtain rfl : J = J20 := eJ20.symm
    obtain rfl : R = R20 := eR20.symm
    replace hv := fnW hv hf20
    have sm : Sm C ms_X10_alias (I, J, R) (I20, J, R) := sm.tr sc20 rfl
    refine lv_iload hx hb dX10_alias_60 (lv_at hl 0 rfl) ?_
    exact ret (y13) _ _ _ _ _ _ _ dX10_alias_62 hH (Rg_01 (Rg_w r18 (by decide))) ⟨⟨oI, oR, sm⟩, rfl, rfl, (Rg_w r18 (by decide)), (hT.symm.trans hv)⟩
  replace hv := fnN hv q9
  have l21 := Rg_ne q9
  have r22 : Rg x3 (1) (1) := Rg_nelo h3 (Rg_ne q9) (Rg_c (x := 0) (a := (0)) (b := (0)) (by decide)) (by decide)
  refine lv_aload_n hx hb dX10_alias_25 rfl (lv_at hl 0 rfl) ?_
  obtain ⟨b23, mb23, vb23, kb23⟩ := rf_10_1 oR m0 k0
  replace hv := fnR hv vb23
  refine gf_10_1 vb23 hx hb hts hown hH m0 k0 rfl kf_X10_19 dX10_alias_26 ?_
  refine lv_iload_n hx hb dX10_alias_29 rfl (lv_at hl 1 rfl) ?_
  refine lv_iload_n hx hb dX10_alias_30 rfl (lv_at hl 2 rfl) ?_
  refine ca_X10_171 hx hb hml hown hts hH (c_X0_add oI oR mb23 kb23) hl.1 mb23 kb23 rfl (by decide) (Nat.le_of_ble_eq_true rfl) ⟨Nat.zero_le _, Nat.zero_le _⟩ dX10_alias_31 (fun y24 I24 J24 R24 H locs hp hH => ?_)
  obtain ⟨⟨oI, -, sc24⟩, eJ24, eR24, ry24, hf24⟩ := hp
  obtain rfl : J = J24 := eJ24.symm
  obtain rfl : R = R24 := eR24.symm
  replace hv := fnC hv hf24
  have sm : Sm C ms_X10_alias (I, J, R) (I24, J, R) := sm.tr sc24 rfl
  refine lv_goto (tgt := 46) hx hb dX10_alias_34 (by decide) ?_
  refine lv_istore (lv' := [(4, .int y24), (0, .ref a0), (1, .int x1), (2, .int x2), (3, .int x3)]) hx hb dX10_alias_46 hl (by decide) rfl (fun ls hl => ?_)
  refine lv_iload hx hb dX10_alias_48 (lv_at hl 0 rfl) ?_
  refine lv_if_eq (tgt := 60) hx hb dX10_alias_50 (by decide) (fun q25 => ?_) (fun q25 => ?_)
  · replace hv := fnP hv q25
    have l26 := congrArg Int32.toInt q25
    have r27 : Rg y24 (0) (0) := Rg_both ry24 (Rg_eqv q25 (Rg_c (x := 0) (a := (0)) (b := (0)) (by decide))) (by decide)
    refine lv_iload hx hb dX10_alias_60 (lv_at hl 0 rfl) ?_
    exact ret (y24) _ _ _ _ _ _ _ dX10_alias_62 hH (Rg_01 (Rg_w r27 (by decide))) ⟨⟨oI, oR, sm⟩, rfl, rfl, (Rg_w r27 (by decide)), (hT.symm.trans hv)⟩
  replace hv := fnN hv q25
  have l28 := Rg_ne q25
  have r29 : Rg y24 (1) (1) := Rg_nelo ry24 (Rg_ne q25) (Rg_c (x := 0) (a := (0)) (b := (0)) (by decide)) (by decide)
  refine lv_aload_n hx hb dX10_alias_53 rfl (lv_at hl 1 rfl) ?_
  obtain ⟨b30, mb30, vb30, kb30⟩ := rf_10_5 oR m0 k0
  replace hv := fnR hv vb30
  refine gf_10_5 vb30 hx hb hts hown hH m0 k0 rfl kf_X10_50 dX10_alias_54 ?_
  refine ca_X10_90 hx hb hml hown hts hH (c_X9_forgetAll oI oR mb30 kb30) hl.1 mb30 kb30 rfl (by decide) (Nat.le_of_ble_eq_true rfl) ⟨Nat.zero_le _, Nat.zero_le _⟩ dX10_alias_57 (fun I31 J31 R31 H locs hp hH => ?_)
  obtain ⟨⟨oI, -, sc31⟩, eJ31, eR31, hf31⟩ := hp
  obtain rfl : J = J31 := eJ31.symm
  obtain rfl : R = R31 := eR31.symm
  replace hv := fnW hv hf31
  have sm : Sm C ms_X10_alias (I, J, R) (I31, J, R) := sm.tr sc31 rfl
  refine lv_iload hx hb dX10_alias_60 (lv_at hl 0 rfl) ?_
  exact ret (y24) _ _ _ _ _ _ _ dX10_alias_62 hH (Rg_01 (Rg_w r29 (by decide))) ⟨⟨oI, oR, sm⟩, rfl, rfl, (Rg_w r29 (by decide)), (hT.symm.trans hv)⟩
noncomputable def F_X10_constant (a0 : Nat) (x1 : Int32) (x2 : Int32) (x3 : Int64) (I : hI) (J : hJ) (R : hR) : Int32 × hU :=
  nm (F_X10_isSort x1) fun y1 => (if y1 = (1 : Int32) then (if x2 = (0 : Int32) then nm ((R a0 2).getD 0) fun b7 => nm ((R b7 0).getD 0) fun b8 => nm (I b8 (Int32.toNatClampNeg x1)) fun y9 => (if y9 = (0 : Int32) then nm (u2 I b8 (Int32.toNatClampNeg x1) x2) fun I13 => nm ((R b7 1).getD 0) fun b14 => nm (u2 J b14 (Int32.toNatClampNeg x1) x3) fun J15 => nm ((R a0 5).getD 0) fun b16 => nmW (F_X9_forgetAll b16 I13 J15 R) fun I17 _ _ => ((0 : Int32), (I17, J15, R)) else nm (u2 I b8 (Int32.toNatClampNeg x1) x2) fun I22 => nm ((R b7 1).getD 0) fun b23 => nm (u2 J b23 (Int32.toNatClampNeg x1) x3) fun J24 => nm ((R a0 5).getD 0) fun b25 => nmW (F_X9_forgetAll b25 I22 J24 R) fun I26 _ _ => ((1 : Int32), (I26, J24, R))) else nm (F_X10_isOf x1 x3) fun y31 => (if y31 = (0 : Int32) then ((-3 : Int32), (I, J, R)) else nm ((R a0 2).getD 0) fun b35 => nm ((R b35 0).getD 0) fun b36 => nm (I b36 (Int32.toNatClampNeg x1)) fun y37 => (if y37 = (0 : Int32) then nm (u2 I b36 (Int32.toNatClampNeg x1) x2) fun I41 => nm ((R b35 1).getD 0) fun b42 => nm (u2 J b42 (Int32.toNatClampNeg x1) x3) fun J43 => nm ((R a0 5).getD 0) fun b44 => nmW (F_X9_forgetAll b44 I41 J43 R) fun I45 _ _ => ((0 : Int32), (I45, J43, R)) else nm (u2 I b36 (Int32.toNatClampNeg x1) x2) fun I50 => nm ((R b35 1).getD 0) fun b51 => nm (u2 J b51 (Int32.toNatClampNeg x1) x3) fun J52 => nm ((R a0 5).getD 0) fun b53 => nmW (F_X9_forgetAll b53 I50 J52 R) fun I54 _ _ => ((1 : Int32), (I54, J52, R))))) else ((-3 : Int32), (I, J, R)))
def ms_X10_constant : List Nat := [2624, 2688, 2880]
set_option maxHeartbeats 4000000 in
set_option maxRecDepth 100000 in
theorem c_X10_constant {l : Launch} {D : va_G} {cy : Nat → ClassId} {L : List Nat} {C : Nat → Nat} {b0 : Nat} {I : hI} {J : hJ} {R : hR} {a0 : Nat} {x1 : Int32} {x2 : Int32} {x3 : Int64} (oI : OkI L C I) (oR : OkR L C R) (m0 : a0 ∈ L) (k0 : C a0 = 10) (h2 : Rg x2 (0) (1)) (hU : Uq L C) : CI l yX10_constant cX10_constant 6 .int 2 D cy L C b0 [.ref a0, .int x1, .int x2, .long x3] (I, J, R) (fun r v => Ps L C ms_X10_constant (I, J, R) v ∧ v.2.2 = R ∧ Rg r (-3) (1) ∧ (∀ ct ∈ L, C ct = 41 → r = conR (I ct) x1 x2 x3 ∧ v.1 ct = conH (I ct) x1 x2 x3) ∧ F_X10_constant a0 x1 x2 x3 I J R = (r, v)) := by
  refine CI.mkI (plainFor_of_name (by decide)) (Nat.le_of_ble_eq_true rfl) ?_
  intro p e s m args below meth c ls Q hF ret hH hl
  obtain ⟨hx, hb, -, hml, hown, hts, -⟩ := hF
  have hl : lv_has ls 6 [(0, .ref a0), (1, .int x1), (2, .int x2), (3, .long x3)] := hl
  have hH : Hp D cy L C b0 s s.heap I J R s.heap [] := hH
  have sm : Sm C ms_X10_constant (I, J, R) (I, J, R) := Sm.rf
  obtain ⟨TT0, hT⟩ : ∃ TT0, TT0 = F_X10_constant a0 x1 x2 x3 I J R := ⟨_, rfl⟩
  have hv := hT
  unfold F_X10_constant at hv
  refine lv_iload_n hx hb dX10_constant_0 rfl (lv_at hl 1 rfl) ?_
  refine ca_X10_78 hx hb hml hown hts hH (c_X10_isSort ) hl.1 (by decide) (Nat.le_of_ble_eq_true rfl) ⟨Nat.zero_le _, Nat.zero_le _⟩ dX10_constant_1 (fun y1 I1 J1 R1 H locs hp hH => ?_)
  obtain ⟨eI1, eJ1, eR1, ry1, hp1, hf1⟩ := hp
  obtain rfl : I = I1 := eI1.symm
  obtain rfl : J = J1 := eJ1.symm
  obtain rfl : R = R1 := eR1.symm
  replace hv := fnS hv hf1.symm
  rcases hp1 with ⟨rfl, hq1⟩ | ⟨rfl, hq1⟩
  rotate_left
  · replace hv := fnN hv (by decide)
    refine lv_if_eq (tgt := 19) hx hb dX10_constant_4 (by decide) (fun q59 => ?_) (fun q59 => ?_)
    rotate_left
    · exact absurd rfl q59
    refine lv_bipush (v := (-3)) hx hb dX10_constant_19 (by decide) ?_
    exact ret ((-3)) _ _ _ _ _ _ _ dX10_constant_21 hH ⟨⟨oI, oR, sm⟩, rfl, (Rg_w (Rg_c (x := (-3)) (a := (-3)) (b := (-3)) (by decide)) (by decide)), (by intro ct mct kct; obtain ⟨ga1, gb1⟩ := h2; obtain ⟨o1, o2⟩ := con_no (h := I ct) (s := x1) (z := x2) (v := x3) (fun h => by have a1 := h.1; omega); rw [o1, o2]; exact ⟨rfl, rfl⟩), (hT.symm.trans hv)⟩
  replace hv := fnP hv rfl
  have r2 : Rg x1 (0) (6) := ⟨by have h9 := (Rg_any x1).1; omega, by have h9 := (Rg_any x1).2; omega⟩
  refine lv_if_eq (tgt := 19) hx hb dX10_constant_4 (by decide) (fun q3 => ?_) (fun q3 => ?_)
  · exact absurd q3 (by decide)
  refine lv_iload_n hx hb dX10_constant_7 rfl (lv_at hl 2 rfl) ?_
  refine lv_if_eq (tgt := 22) hx hb dX10_constant_8 (by decide) (fun q4 => ?_) (fun q4 => ?_)
  · replace hv := fnP hv q4
    have l5 := congrArg Int32.toInt q4
    have r6 : Rg x2 (0) (0) := Rg_both h2 (Rg_eqv q4 (Rg_c (x := 0) (a := (0)) (b := (0)) (by decide))) (by decide)
    refine lv_aload_n hx hb dX10_constant_22 rfl (lv_at hl 0 rfl) ?_
    obtain ⟨b7, mb7, vb7, kb7⟩ := rf_10_2 oR m0 k0
    replace hv := fnR hv vb7
    refine gf_10_2 vb7 hx hb hts hown hH m0 k0 rfl kf_X10_26 dX10_constant_23 ?_
    obtain ⟨b8, mb8, vb8, kb8⟩ := rf_2_0 oR mb7 kb7
    replace hv := fnR hv vb8
    refine gf_2_0 vb8 hx hb hts hown hH mb7 kb7 rfl kf_X10_177 dX10_constant_26 ?_
    refine lv_iload_n hx hb dX10_constant_29 rfl (lv_at hl 1 rfl) ?_
    refine ld_41 hx hb hH mb8 kb8 (Rg_in r2 (by decide)) dX10_constant_30 ?_
    refine lv_topi (fun y9 ey9 => ?_)
    have ry9 : Rg y9 (0) (1) := by rw [ey9]; exact rd_41 oI mb8 kb8 (Rg_in r2 (by decide))
    replace hv := fnS hv ey9
    refine lv_if_eq (tgt := 38) hx hb dX10_constant_31 (by decide) (fun q10 => ?_) (fun q10 => ?_)
    · replace hv := fnP hv q10
      have l11 := congrArg Int32.toInt q10
      have r12 : Rg y9 (0) (0) := Rg_both ry9 (Rg_eqv q10 (Rg_c (x := 0) (a := (0)) (b := (0)) (by decide))) (by decide)
      refine lv_iconst (v := 0) hx hb dX10_constant_38 (by decide) ?_
      refine lv_istore (lv' := [(5, .int 0), (0, .ref a0), (1, .int x1), (2, .int x2), (3, .long x3)]) hx hb dX10_constant_39 hl (by decide) rfl (fun ls hl => ?_)
      refine lv_aload_n hx hb dX10_constant_41 rfl (lv_at hl 1 rfl) ?_
      refine gf_10_2 vb7 hx hb hts hown hH m0 k0 rfl kf_X10_26 dX10_constant_42 ?_
      refine gf_2_0 vb8 hx hb hts hown hH mb7 kb7 rfl kf_X10_177 dX10_constant_45 ?_
      refine lv_iload_n hx hb dX10_constant_48 rfl (lv_at hl 2 rfl) ?_
      refine lv_iload_n hx hb dX10_constant_49 rfl (lv_at hl 3 rfl) ?_
      refine st_41 hx hb hH mb8 kb8 (Rg_in r2 (by decide)) (Rg_01 (Rg_w r6 (by decide))) dX10_constant_50 (fun I13 H locs eI13 hH => ?_)
      replace hv := fnS hv eI13
      have oI : OkI L C I13 := by rw [eI13]; exact wr_41 oI kb8 (Rg_w r6 (by decide))
      have sm : Sm C ms_X10_constant (I, J, R) (I13, J, R) := by rw [eI13]; exact sm.stI kb8 (mC_arr (by decide) rfl)
      refine lv_aload_n hx hb dX10_constant_51 rfl (lv_at hl 1 rfl) ?_
      refine gf_10_2 vb7 hx hb hts hown hH m0 k0 rfl kf_X10_26 dX10_constant_52 ?_
      obtain ⟨b14, mb14, vb14, kb14⟩ := rf_2_1 oR mb7 kb7
      replace hv := fnR hv vb14
      refine gf_2_1 vb14 hx hb hts hown hH mb7 kb7 rfl kf_X10_181 dX10_constant_55 ?_
      refine lv_iload_n hx hb dX10_constant_58 rfl (lv_at hl 2 rfl) ?_
      refine lv_lload_n hx hb dX10_constant_59 rfl (lv_at hl 4 rfl) ?_
      refine st_42 hx hb hH mb14 kb14 (Rg_in r2 (by decide)) dX10_constant_60 (fun J15 H locs eJ15 hH => ?_)
      replace hv := fnS hv eJ15
      have sm : Sm C ms_X10_constant (I, J, R) (I13, J15, R) := by rw [eJ15]; exact sm.stJ kb14 (mC_arr (by decide) rfl)
      refine lv_aload_n hx hb dX10_constant_61 rfl (lv_at hl 1 rfl) ?_
      obtain ⟨b16, mb16, vb16, kb16⟩ := rf_10_5 oR m0 k0
      replace hv := fnR hv vb16
      refine gf_10_5 vb16 hx hb hts hown hH m0 k0 rfl kf_X10_50 dX10_constant_62 ?_
      refine ca_X10_90 hx hb hml hown hts hH (c_X9_forgetAll oI oR mb16 kb16) hl.1 mb16 kb16 rfl (by decide) (Nat.le_of_ble_eq_true rfl) ⟨Nat.zero_le _, Nat.zero_le _⟩ dX10_constant_65 (fun I17 J17 R17 H locs hp hH => ?_)
      obtain ⟨⟨oI, -, sc17⟩, eJ17, eR17, hf17⟩ := hp
      obtain rfl : J15 = J17 := eJ17.symm
      obtain rfl : R = R17 := eR17.symm
      replace hv := fnW hv hf17
      have sm : Sm C ms_X10_constant (I, J, R) (I17, J15, R) := sm.tr sc17 rfl
      refine lv_iload hx hb dX10_constant_68 (lv_at hl 0 rfl) ?_
      exact ret (0) _ _ _ _ _ _ _ dX10_constant_70 hH ⟨⟨oI, oR, sm⟩, rfl, (Rg_w (Rg_c (x := 0) (a := (0)) (b := (0)) (by decide)) (by decide)), (by intro ct mct kct; obtain ⟨ga0, gb0⟩ := r2; obtain ⟨ga1, gb1⟩ := r6; rw [hU ct mct b8 mb8 (kct.trans kb8.symm) (by rw [kct]; rfl)]; have h7 : I b8 x1.toNatClampNeg = y9 := ey9.symm; obtain ⟨o1, o2⟩ := con_0 (h := I b8) (s := x1) (z := x2) (v := x3) ⟨by omega, fun h => absurd h (by omega)⟩ (by rw [h7]; obtain ⟨a7, a8⟩ := r12; omega); rw [o1, o2]; refine ⟨rfl, ?_⟩; show I17 b8 = _; have s18 : I13 b8 = up (I b8) _ _ := (by rw [eI13]; exact u2_up); have s19 : I17 b8 = I13 b8 := (funext fun k => (sc17 b8 k (by rw [kb8]; exact nm_arr (by decide) rfl)).1); rw [s19, s18]), (hT.symm.trans hv)⟩
    replace hv := fnN hv q10
    have l20 := Rg_ne q10
    have r21 : Rg y9 (1) (1) := Rg_nelo ry9 (Rg_ne q10) (Rg_c (x := 0) (a := (0)) (b := (0)) (by decide)) (by decide)
    refine lv_iconst (v := 1) hx hb dX10_constant_34 (by decide) ?_
    refine lv_goto (tgt := 39) hx hb dX10_constant_35 (by decide) ?_
    refine lv_istore (lv' := [(5, .int 1), (0, .ref a0), (1, .int x1), (2, .int x2), (3, .long x3)]) hx hb dX10_constant_39 hl (by decide) rfl (fun ls hl => ?_)
    refine lv_aload_n hx hb dX10_constant_41 rfl (lv_at hl 1 rfl) ?_
    refine gf_10_2 vb7 hx hb hts hown hH m0 k0 rfl kf_X10_26 dX10_constant_42 ?_
    refine gf_2_0 vb8 hx hb hts hown hH mb7 kb7 rfl kf_X10_177 dX10_constant_45 ?_
    refine lv_iload_n hx hb dX10_constant_48 rfl (lv_at hl 2 rfl) ?_
    refine lv_iload_n hx hb dX10_constant_49 rfl (lv_at hl 3 rfl) ?_
    refine st_41 hx hb hH mb8 kb8 (Rg_in r2 (by decide)) (Rg_01 (Rg_w r6 (by decide))) dX10_constant_50 (fun I22 H locs eI22 hH => ?_)
    replace hv := fnS hv eI22
    have oI : OkI L C I22 := by rw [eI22]; exact wr_41 oI kb8 (Rg_w r6 (by decide))
    have sm : Sm C ms_X10_constant (I, J, R) (I22, J, R) := by rw [eI22]; exact sm.stI kb8 (mC_arr (by decide) rfl)
    refine lv_aload_n hx hb dX10_constant_51 rfl (lv_at hl 1 rfl) ?_
    refine gf_10_2 vb7 hx hb hts hown hH m0 k0 rfl kf_X10_26 dX10_constant_52 ?_
    obtain ⟨b23, mb23, vb23, kb23⟩ := rf_2_1 oR mb7 kb7
    replace hv := fnR hv vb23
    refine gf_2_1 vb23 hx hb hts hown hH mb7 kb7 rfl kf_X10_181 dX10_constant_55 ?_
    refine lv_iload_n hx hb dX10_constant_58 rfl (lv_at hl 2 rfl) ?_
    refine lv_lload_n hx hb dX10_constant_59 rfl (lv_at hl 4 rfl) ?_
    refine st_42 hx hb hH mb23 kb23 (Rg_in r2 (by decide)) dX10_constant_60 (fun J24 H locs eJ24 hH => ?_)
    replace hv := fnS hv eJ24
    have sm : Sm C ms_X10_constant (I, J, R) (I22, J24, R) := by rw [eJ24]; exact sm.stJ kb23 (mC_arr (by decide) rfl)
    refine lv_aload_n hx hb dX10_constant_61 rfl (lv_at hl 1 rfl) ?_
    obtain ⟨b25, mb25, vb25, kb25⟩ := rf_10_5 oR m0 k0
    replace hv := fnR hv vb25
    refine gf_10_5 vb25 hx hb hts hown hH m0 k0 rfl kf_X10_50 dX10_constant_62 ?_
    refine ca_X10_90 hx hb hml hown hts hH (c_X9_forgetAll oI oR mb25 kb25) hl.1 mb25 kb25 rfl (by decide) (Nat.le_of_ble_eq_true rfl) ⟨Nat.zero_le _, Nat.zero_le _⟩ dX10_constant_65 (fun I26 J26 R26 H locs hp hH => ?_)
    obtain ⟨⟨oI, -, sc26⟩, eJ26, eR26, hf26⟩ := hp
    obtain rfl : J24 = J26 := eJ26.symm
    obtain rfl : R = R26 := eR26.symm
    replace hv := fnW hv hf26
    have sm : Sm C ms_X10_constant (I, J, R) (I26, J24, R) := sm.tr sc26 rfl
    refine lv_iload hx hb dX10_constant_68 (lv_at hl 0 rfl) ?_
    exact ret (1) _ _ _ _ _ _ _ dX10_constant_70 hH ⟨⟨oI, oR, sm⟩, rfl, (Rg_w (Rg_c (x := 1) (a := (1)) (b := (1)) (by decide)) (by decide)), (by intro ct mct kct; obtain ⟨ga0, gb0⟩ := r2; obtain ⟨ga1, gb1⟩ := r6; rw [hU ct mct b8 mb8 (kct.trans kb8.symm) (by rw [kct]; rfl)]; have h7 : I b8 x1.toNatClampNeg = y9 := ey9.symm; obtain ⟨o1, o2⟩ := con_1 (h := I b8) (s := x1) (z := x2) (v := x3) ⟨by omega, fun h => absurd h (by omega)⟩ (by rw [h7]; obtain ⟨a7, a8⟩ := r21; omega); rw [o1, o2]; refine ⟨rfl, ?_⟩; show I26 b8 = _; have s27 : I22 b8 = up (I b8) _ _ := (by rw [eI22]; exact u2_up); have s28 : I26 b8 = I22 b8 := (funext fun k => (sc26 b8 k (by rw [kb8]; exact nm_arr (by decide) rfl)).1); rw [s28, s27]), (hT.symm.trans hv)⟩
  replace hv := fnN hv q4
  have l29 := Rg_ne q4
  have r30 : Rg x2 (1) (1) := Rg_nelo h2 (Rg_ne q4) (Rg_c (x := 0) (a := (0)) (b := (0)) (by decide)) (by decide)
  refine lv_iload_n hx hb dX10_constant_11 rfl (lv_at hl 1 rfl) ?_
  refine lv_lload_n hx hb dX10_constant_12 rfl (lv_at hl 3 rfl) ?_
  refine ca_X10_115 hx hb hml hown hts hH (c_X10_isOf r2) hl.1 (by decide) (Nat.le_of_ble_eq_true rfl) ⟨Nat.zero_le _, Nat.zero_le _⟩ dX10_constant_13 (fun y31 I31 J31 R31 H locs hp hH => ?_)
  obtain ⟨eI31, eJ31, eR31, ry31, hp31, hf31⟩ := hp
  obtain rfl : I = I31 := eI31.symm
  obtain rfl : J = J31 := eJ31.symm
  obtain rfl : R = R31 := eR31.symm
  replace hv := fnS hv hf31.symm
  refine lv_if_ne (tgt := 22) hx hb dX10_constant_16 (by decide) (fun q32 => ?_) (fun q32 => ?_)
  rotate_left
  · replace hv := fnP hv q32
    have l57 := congrArg Int32.toInt q32
    have r58 : Rg y31 (0) (0) := Rg_both ry31 (Rg_eqv q32 (Rg_c (x := 0) (a := (0)) (b := (0)) (by decide))) (by decide)
    refine lv_bipush (v := (-3)) hx hb dX10_constant_19 (by decide) ?_
    exact ret ((-3)) _ _ _ _ _ _ _ dX10_constant_21 hH ⟨⟨oI, oR, sm⟩, rfl, (Rg_w (Rg_c (x := (-3)) (a := (-3)) (b := (-3)) (by decide)) (by decide)), (by intro ct mct kct; obtain ⟨ga0, gb0⟩ := r2; obtain ⟨ga1, gb1⟩ := r30; obtain ⟨o1, o2⟩ := con_no (h := I ct) (s := x1) (z := x2) (v := x3) (fun h => ((hp31.resolve_left (fun q => by have a1 := r58.2; rw [q.1] at a1; exact absurd a1 (by decide))).2 (h.2 (by omega)))); rw [o1, o2]; exact ⟨rfl, rfl⟩), (hT.symm.trans hv)⟩
  replace hv := fnN hv q32
  have l33 := Rg_ne q32
  have r34 : Rg y31 (1) (1) := Rg_nelo ry31 (Rg_ne q32) (Rg_c (x := 0) (a := (0)) (b := (0)) (by decide)) (by decide)
  refine lv_aload_n hx hb dX10_constant_22 rfl (lv_at hl 0 rfl) ?_
  obtain ⟨b35, mb35, vb35, kb35⟩ := rf_10_2 oR m0 k0
  replace hv := fnR hv vb35
  refine gf_10_2 vb35 hx hb hts hown hH m0 k0 rfl kf_X10_26 dX10_constant_23 ?_
  obtain ⟨b36, mb36, vb36, kb36⟩ := rf_2_0 oR mb35 kb35
  replace hv := fnR hv vb36
  refine gf_2_0 vb36 hx hb hts hown hH mb35 kb35 rfl kf_X10_177 dX10_constant_26 ?_
  refine lv_iload_n hx hb dX10_constant_29 rfl (lv_at hl 1 rfl) ?_
  refine ld_41 hx hb hH mb36 kb36 (Rg_in r2 (by decide)) dX10_constant_30 ?_
  refine lv_topi (fun y37 ey37 => ?_)
  have ry37 : Rg y37 (0) (1) := by rw [ey37]; exact rd_41 oI mb36 kb36 (Rg_in r2 (by decide))
  replace hv := fnS hv ey37
  refine lv_if_eq (tgt := 38) hx hb dX10_constant_31 (by decide) (fun q38 => ?_) (fun q38 => ?_)
  · replace hv := fnP hv q38
    have l39 := congrArg Int32.toInt q38
    have r40 : Rg y37 (0) (0) := Rg_both ry37 (Rg_eqv q38 (Rg_c (x := 0) (a := (0)) (b := (0)) (by decide))) (by decide)
    refine lv_iconst (v := 0) hx hb dX10_constant_38 (by decide) ?_
    refine lv_istore (lv' := [(5, .int 0), (0, .ref a0), (1, .int x1), (2, .int x2), (3, .long x3)]) hx hb dX10_constant_39 hl (by decide) rfl (fun ls hl => ?_)
    refine lv_aload_n hx hb dX10_constant_41 rfl (lv_at hl 1 rfl) ?_
    refine gf_10_2 vb35 hx hb hts hown hH m0 k0 rfl kf_X10_26 dX10_constant_42 ?_
    refine gf_2_0 vb36 hx hb hts hown hH mb35 kb35 rfl kf_X10_177 dX10_constant_45 ?_
    refine lv_iload_n hx hb dX10_constant_48 rfl (lv_at hl 2 rfl) ?_
    refine lv_iload_n hx hb dX10_constant_49 rfl (lv_at hl 3 rfl) ?_
    refine st_41 hx hb hH mb36 kb36 (Rg_in r2 (by decide)) (Rg_01 (Rg_w r30 (by decide))) dX10_constant_50 (fun I41 H locs eI41 hH => ?_)
    replace hv := fnS hv eI41
    have oI : OkI L C I41 := by rw [eI41]; exact wr_41 oI kb36 (Rg_w r30 (by decide))
    have sm : Sm C ms_X10_constant (I, J, R) (I41, J, R) := by rw [eI41]; exact sm.stI kb36 (mC_arr (by decide) rfl)
    refine lv_aload_n hx hb dX10_constant_51 rfl (lv_at hl 1 rfl) ?_
    refine gf_10_2 vb35 hx hb hts hown hH m0 k0 rfl kf_X10_26 dX10_constant_52 ?_
    obtain ⟨b42, mb42, vb42, kb42⟩ := rf_2_1 oR mb35 kb35
    replace hv := fnR hv vb42
    refine gf_2_1 vb42 hx hb hts hown hH mb35 kb35 rfl kf_X10_181 dX10_constant_55 ?_
    refine lv_iload_n hx hb dX10_constant_58 rfl (lv_at hl 2 rfl) ?_
    refine lv_lload_n hx hb dX10_constant_59 rfl (lv_at hl 4 rfl) ?_
    refine st_42 hx hb hH mb42 kb42 (Rg_in r2 (by decide)) dX10_constant_60 (fun J43 H locs eJ43 hH => ?_)
    replace hv := fnS hv eJ43
    have sm : Sm C ms_X10_constant (I, J, R) (I41, J43, R) := by rw [eJ43]; exact sm.stJ kb42 (mC_arr (by decide) rfl)
    refine lv_aload_n hx hb dX10_constant_61 rfl (lv_at hl 1 rfl) ?_
    obtain ⟨b44, mb44, vb44, kb44⟩ := rf_10_5 oR m0 k0
    replace hv := fnR hv vb44
    refine gf_10_5 vb44 hx hb hts hown hH m0 k0 rfl kf_X10_50 dX10_constant_62 ?_
    refine ca_X10_90 hx hb hml hown hts hH (c_X9_forgetAll oI oR mb44 kb44) hl.1 mb44 kb44 rfl (by decide) (Nat.le_of_ble_eq_true rfl) ⟨Nat.zero_le _, Nat.zero_le _⟩ dX10_constant_65 (fun I45 J45 R45 H locs hp hH => ?_)
    obtain ⟨⟨oI, -, sc45⟩, eJ45, eR45, hf45⟩ := hp
    obtain rfl : J43 = J45 := eJ45.symm
    obtain rfl : R = R45 := eR45.symm
    replace hv := fnW hv hf45
    have sm : Sm C ms_X10_constant (I, J, R) (I45, J43, R) := sm.tr sc45 rfl
    refine lv_iload hx hb dX10_constant_68 (lv_at hl 0 rfl) ?_
    exact ret (0) _ _ _ _ _ _ _ dX10_constant_70 hH ⟨⟨oI, oR, sm⟩, rfl, (Rg_w (Rg_c (x := 0) (a := (0)) (b := (0)) (by decide)) (by decide)), (by intro ct mct kct; obtain ⟨ga0, gb0⟩ := r2; obtain ⟨ga1, gb1⟩ := r30; rw [hU ct mct b36 mb36 (kct.trans kb36.symm) (by rw [kct]; rfl)]; have h7 : I b36 x1.toNatClampNeg = y37 := ey37.symm; obtain ⟨o1, o2⟩ := con_0 (h := I b36) (s := x1) (z := x2) (v := x3) ⟨by omega, fun _ => (hp31.resolve_right (fun q => Rg_ne0 r34 (by decide) q.1)).2⟩ (by rw [h7]; obtain ⟨a7, a8⟩ := r40; omega); rw [o1, o2]; refine ⟨rfl, ?_⟩; show I45 b36 = _; have s46 : I41 b36 = up (I b36) _ _ := (by rw [eI41]; exact u2_up); have s47 : I45 b36 = I41 b36 := (funext fun k => (sc45 b36 k (by rw [kb36]; exact nm_arr (by decide) rfl)).1); rw [s47, s46]), (hT.symm.trans hv)⟩
  replace hv := fnN hv q38
  have l48 := Rg_ne q38
  have r49 : Rg y37 (1) (1) := Rg_nelo ry37 (Rg_ne q38) (Rg_c (x := 0) (a := (0)) (b := (0)) (by decide)) (by decide)
  refine lv_iconst (v := 1) hx hb dX10_constant_34 (by decide) ?_
  refine lv_goto (tgt := 39) hx hb dX10_constant_35 (by decide) ?_
  refine lv_istore (lv' := [(5, .int 1), (0, .ref a0), (1, .int x1), (2, .int x2), (3, .long x3)]) hx hb dX10_constant_39 hl (by decide) rfl (fun ls hl => ?_)
  refine lv_aload_n hx hb dX10_constant_41 rfl (lv_at hl 1 rfl) ?_
  refine gf_10_2 vb35 hx hb hts hown hH m0 k0 rfl kf_X10_26 dX10_constant_42 ?_
  refine gf_2_0 vb36 hx hb hts hown hH mb35 kb35 rfl kf_X10_177 dX10_constant_45 ?_
  refine lv_iload_n hx hb dX10_constant_48 rfl (lv_at hl 2 rfl) ?_
  refine lv_iload_n hx hb dX10_constant_49 rfl (lv_at hl 3 rfl) ?_
  refine st_41 hx hb hH mb36 kb36 (Rg_in r2 (by decide)) (Rg_01 (Rg_w r30 (by decide))) dX10_constant_50 (fun I50 H locs eI50 hH => ?_)
  replace hv := fnS hv eI50
  have oI : OkI L C I50 := by rw [eI50]; exact wr_41 oI kb36 (Rg_w r30 (by decide))
  have sm : Sm C ms_X10_constant (I, J, R) (I50, J, R) := by rw [eI50]; exact sm.stI kb36 (mC_arr (by decide) rfl)
  refine lv_aload_n hx hb dX10_constant_51 rfl (lv_at hl 1 rfl) ?_
  refine gf_10_2 vb35 hx hb hts hown hH m0 k0 rfl kf_X10_26 dX10_constant_52 ?_
  obtain ⟨b51, mb51, vb51, kb51⟩ := rf_2_1 oR mb35 kb35
  replace hv := fnR hv vb51
  refine gf_2_1 vb51 hx hb hts hown hH mb35 kb35 rfl kf_X10_181 dX10_constant_55 ?_
  refine lv_iload_n hx hb dX10_constant_58 rfl (lv_at hl 2 rfl) ?_
  refine lv_lload_n hx hb dX10_constant_59 rfl (lv_at hl 4 rfl) ?_
  refine st_42 hx hb hH mb51 kb51 (Rg_in r2 (by decide)) dX10_constant_60 (fun J52 H locs eJ52 hH => ?_)
  replace hv := fnS hv eJ52
  have sm : Sm C ms_X10_constant (I, J, R) (I50, J52, R) := by rw [eJ52]; exact sm.stJ kb51 (mC_arr (by decide) rfl)
  refine lv_aload_n hx hb dX10_constant_61 rfl (lv_at hl 1 rfl) ?_
  obtain ⟨b53, mb53, vb53, kb53⟩ := rf_10_5 oR m0 k0
  replace hv := fnR hv vb53
  refine gf_10_5 vb53 hx hb hts hown hH m0 k0 rfl kf_X10_50 dX10_constant_62 ?_
  refine ca_X10_90 hx hb hml hown hts hH (c_X9_forgetAll oI oR mb53 kb53) hl.1 mb53 kb53 rfl (by decide) (Nat.le_of_ble_eq_true rfl) ⟨Nat.zero_le _, Nat.zero_le _⟩ dX10_constant_65 (fun I54 J54 R54 H locs hp hH => ?_)
  obtain ⟨⟨oI, -, sc54⟩, eJ54, eR54, hf54⟩ := hp
  obtain rfl : J52 = J54 := eJ54.symm
  obtain rfl : R = R54 := eR54.symm
  replace hv := fnW hv hf54
  have sm : Sm C ms_X10_constant (I, J, R) (I54, J52, R) := sm.tr sc54 rfl
  refine lv_iload hx hb dX10_constant_68 (lv_at hl 0 rfl) ?_
  exact ret (1) _ _ _ _ _ _ _ dX10_constant_70 hH ⟨⟨oI, oR, sm⟩, rfl, (Rg_w (Rg_c (x := 1) (a := (1)) (b := (1)) (by decide)) (by decide)), (by intro ct mct kct; obtain ⟨ga0, gb0⟩ := r2; obtain ⟨ga1, gb1⟩ := r30; rw [hU ct mct b36 mb36 (kct.trans kb36.symm) (by rw [kct]; rfl)]; have h7 : I b36 x1.toNatClampNeg = y37 := ey37.symm; obtain ⟨o1, o2⟩ := con_1 (h := I b36) (s := x1) (z := x2) (v := x3) ⟨by omega, fun _ => (hp31.resolve_right (fun q => Rg_ne0 r34 (by decide) q.1)).2⟩ (by rw [h7]; obtain ⟨a7, a8⟩ := r49; omega); rw [o1, o2]; refine ⟨rfl, ?_⟩; show I54 b36 = _; have s55 : I50 b36 = up (I b36) _ _ := (by rw [eI50]; exact u2_up); have s56 : I54 b36 = I50 b36 := (funext fun k => (sc54 b36 k (by rw [kb36]; exact nm_arr (by decide) rfl)).1); rw [s56, s55]), (hT.symm.trans hv)⟩
def ms_X10_fit : List Nat := [196, 197, 2752, 2816]
set_option maxHeartbeats 4000000 in
set_option maxRecDepth 100000 in
theorem c_X10_fit {l : Launch} {D : va_G} {cy : Nat → ClassId} {L : List Nat} {C : Nat → Nat} {b0 : Nat} {I : hI} {J : hJ} {R : hR} {a0 : Nat} {x1 : Int32} {x2 : Int32} {x3 : Int32} {x4 : Int32} (oI : OkI L C I) (oR : OkR L C R) (m0 : a0 ∈ L) (k0 : C a0 = 10) : CI l yX10_fit cX10_fit 7 .int 12 D cy L C b0 [.ref a0, .int x1, .int x2, .int x3, .int x4] (I, J, R) (fun r v => Ps L C ms_X10_fit (I, J, R) v ∧ v.2.1 = J ∧ v.2.2 = R) := by
  refine CI.mkI (plainFor_of_name (by decide)) (Nat.le_of_ble_eq_true rfl) ?_
  intro p e s m args below meth c ls Q hF ret hH hl
  obtain ⟨hx, hb, -, hml, hown, hts, -⟩ := hF
  have hl : lv_has ls 7 [(0, .ref a0), (1, .int x1), (2, .int x2), (3, .int x3), (4, .int x4)] := hl
  have hH : Hp D cy L C b0 s s.heap I J R s.heap [] := hH
  have sm : Sm C ms_X10_fit (I, J, R) (I, J, R) := Sm.rf
  refine lv_iload_n hx hb dX10_fit_0 rfl (lv_at hl 1 rfl) ?_
  refine lv_iload_n hx hb dX10_fit_1 rfl (lv_at hl 3 rfl) ?_
  refine ca_X10_185 hx hb hml hown hts hH (c_X10_areFaceAndShape ) hl.1 (by decide) (Nat.le_of_ble_eq_true rfl) ⟨Nat.zero_le _, Nat.zero_le _⟩ dX10_fit_2 (fun y1 I1 J1 R1 H locs hp hH => ?_)
  obtain ⟨eI1, eJ1, eR1, ry1, hp1, hf1⟩ := hp
  obtain rfl : I = I1 := eI1.symm
  obtain rfl : J = J1 := eJ1.symm
  obtain rfl : R = R1 := eR1.symm
  rcases hp1 with ⟨rfl, hq1⟩ | ⟨rfl, hq1⟩
  rotate_left
  · refine lv_if_eq (tgt := 18) hx hb dX10_fit_5 (by decide) (fun q52 => ?_) (fun q52 => ?_)
    rotate_left
    · exact absurd rfl q52
    refine lv_bipush (v := (-3)) hx hb dX10_fit_18 (by decide) ?_
    exact ret ((-3)) _ _ _ _ _ _ _ dX10_fit_20 hH ⟨⟨oI, oR, sm⟩, rfl, rfl⟩
  have r2 : Rg x1 (0) (9) := ⟨by have h9 := (Rg_any x1).1; omega, by have h9 := (Rg_any x1).2; omega⟩
  have r3 : Rg x3 (0) (19) := ⟨by have h9 := (Rg_any x3).1; omega, by have h9 := (Rg_any x3).2; omega⟩
  refine lv_if_eq (tgt := 18) hx hb dX10_fit_5 (by decide) (fun q4 => ?_) (fun q4 => ?_)
  · exact absurd q4 (by decide)
  refine lv_iload hx hb dX10_fit_8 (lv_at hl 4 rfl) ?_
  refine lv_iconst (v := 0) hx hb dX10_fit_10 (by decide) ?_
  refine lv_iconst (v := 5) hx hb dX10_fit_11 (by decide) ?_
  refine ca_X10_82 hx hb hml hown hts hH (c_X10_isWithin ) hl.1 (by decide) (Nat.le_of_ble_eq_true rfl) ⟨Nat.zero_le _, Nat.zero_le _⟩ dX10_fit_12 (fun y5 I5 J5 R5 H locs hp hH => ?_)
  obtain ⟨eI5, eJ5, eR5, ry5, hp5, hf5⟩ := hp
  obtain rfl : I = I5 := eI5.symm
  obtain rfl : J = J5 := eJ5.symm
  obtain rfl : R = R5 := eR5.symm
  rcases hp5 with ⟨rfl, hq5⟩ | ⟨rfl, hq5⟩
  rotate_left
  · refine lv_if_ne (tgt := 21) hx hb dX10_fit_15 (by decide) (fun q51 => ?_) (fun q51 => ?_)
    · exact absurd rfl q51
    refine lv_bipush (v := (-3)) hx hb dX10_fit_18 (by decide) ?_
    exact ret ((-3)) _ _ _ _ _ _ _ dX10_fit_20 hH ⟨⟨oI, oR, sm⟩, rfl, rfl⟩
  have l6 := hq5.1
  have r7 : Rg x4 (0) (2147483647) := Rg_lle (Rg_any x4) l6 (Rg_c (x := 0) (a := (0)) (b := (0)) (by decide)) (by decide)
  have l8 := hq5.2
  have r9 : Rg x4 (0) (5) := Rg_ule r7 l8 (Rg_c (x := 5) (a := (5)) (b := (5)) (by decide)) (by decide)
  refine lv_if_ne (tgt := 21) hx hb dX10_fit_15 (by decide) (fun q10 => ?_) (fun q10 => ?_)
  rotate_left
  · exact absurd q10 (by decide)
  refine lv_aload_n hx hb dX10_fit_21 rfl (lv_at hl 0 rfl) ?_
  obtain ⟨b11, mb11, vb11, kb11⟩ := rf_10_4 oR m0 k0
  refine gf_10_4 vb11 hx hb hts hown hH m0 k0 rfl kf_X10_41 dX10_fit_22 ?_
  refine lv_bipush (v := 10) hx hb dX10_fit_25 (by decide) ?_
  refine lv_iload_n hx hb dX10_fit_27 rfl (lv_at hl 1 rfl) ?_
  refine lv_iadd hx hb dX10_fit_28 ?_
  refine lv_topi (fun y12 ey12 => ?_)
  obtain ⟨ty12, ry12⟩ := Rg_addx (a' := (10)) (b' := (19)) (by decide : Int32.toInt 10 = 10) (rfl : x1.toInt = _) (Rg_c (x := 10) (a := (10)) (b := (10)) (by decide)) r2 (by decide)
  rw [← ey12] at ty12 ry12
  obtain ⟨b13, mb13, vb13, kb13⟩ := rr_57 oR mb11 kb11 (Rg_in ry12 (by decide))
  refine ld_57 hx hb hH mb11 kb11 (Rg_in ry12 (by decide)) vb13 dX10_fit_29 ?_
  refine lv_astore (lv' := [(5, .ref b13), (0, .ref a0), (1, .int x1), (2, .int x2), (3, .int x3), (4, .int x4)]) hx hb dX10_fit_30 hl (by decide) rfl (fun ls hl => ?_)
  refine lv_aload hx hb dX10_fit_32 (lv_at hl 0 rfl) ?_
  refine lv_iload_n hx hb dX10_fit_34 rfl (lv_at hl 3 rfl) ?_
  refine ca_X10_151 hx hb hml hown hts hH (c_X7_has oI oR mb13 kb13) hl.1 mb13 kb13 rfl (by decide) (Nat.le_of_ble_eq_true rfl) ⟨Nat.zero_le _, Nat.zero_le _⟩ dX10_fit_35 (fun y14 I14 J14 R14 H locs hp hH => ?_)
  obtain ⟨eI14, eJ14, eR14, ry14, hp14, hf14⟩ := hp
  obtain rfl : I = I14 := eI14.symm
  obtain rfl : J = J14 := eJ14.symm
  obtain rfl : R = R14 := eR14.symm
  rcases hp14 with ⟨rfl, hq14⟩ | ⟨rfl, hq14⟩
  rotate_left
  · refine lv_if_ne (tgt := 44) hx hb dX10_fit_38 (by decide) (fun q50 => ?_) (fun q50 => ?_)
    · exact absurd rfl q50
    refine lv_bipush (v := (-2)) hx hb dX10_fit_41 (by decide) ?_
    exact ret ((-2)) _ _ _ _ _ _ _ dX10_fit_43 hH ⟨⟨oI, oR, sm⟩, rfl, rfl⟩
  have r15 : Rg x2 (0) (5) := ⟨by have h9 := (Rg_any x2).1; omega, by have h9 := (Rg_any x2).2; omega⟩
  refine lv_if_ne (tgt := 44) hx hb dX10_fit_38 (by decide) (fun q16 => ?_) (fun q16 => ?_)
  rotate_left
  · exact absurd q16 (by decide)
  refine lv_aload_n hx hb dX10_fit_44 rfl (lv_at hl 1 rfl) ?_
  obtain ⟨b17, mb17, vb17, kb17⟩ := rf_10_3 oR m0 k0
  refine gf_10_3 vb17 hx hb hts hown hH m0 k0 rfl kf_X10_35 dX10_fit_45 ?_
  refine lv_aload hx hb dX10_fit_48 (lv_at hl 0 rfl) ?_
  obtain ⟨b18, mb18, vb18, kb18⟩ := rf_7_0 oR mb13 kb13
  refine gf_7_0 vb18 hx hb hts hown hH mb13 kb13 rfl kf_X10_154 dX10_fit_50 ?_
  refine lv_iload_n hx hb dX10_fit_53 rfl (lv_at hl 3 rfl) ?_
  obtain ⟨b19, mb19, vb19, kb19⟩ := rr_56 oR mb18 kb18 (Rg_in r15 (by decide))
  refine ld_56 hx hb hH mb18 kb18 (Rg_in r15 (by decide)) vb19 dX10_fit_54 ?_
  refine lv_aload_n hx hb dX10_fit_55 rfl (lv_at hl 1 rfl) ?_
  refine gf_10_4 vb11 hx hb hts hown hH m0 k0 rfl kf_X10_41 dX10_fit_56 ?_
  refine lv_iload_n hx hb dX10_fit_59 rfl (lv_at hl 4 rfl) ?_
  obtain ⟨b20, mb20, vb20, kb20⟩ := rr_57 oR mb11 kb11 (Rg_in r3 (by decide))
  refine ld_57 hx hb hH mb11 kb11 (Rg_in r3 (by decide)) vb20 dX10_fit_60 ?_
  refine ca_X10_188 hx hb hml hown hts hH (c_X3_find oI oR mb17 kb17 mb19 kb19 mb20 kb20) hl.1 mb17 kb17 rfl (by decide) (Nat.le_of_ble_eq_true rfl) ⟨Nat.zero_le _, Nat.zero_le _⟩ dX10_fit_61 (fun y21 I21 J21 R21 H locs hp hH => ?_)
  obtain ⟨⟨oI, -, sc21⟩, eJ21, eR21, ry21, hp21, hf21⟩ := hp
  obtain rfl : J = J21 := eJ21.symm
  obtain rfl : R = R21 := eR21.symm
  have sm : Sm C ms_X10_fit (I, J, R) (I21, J, R) := sm.tr sc21 rfl
  rcases hp21 with ⟨rfl, hq21⟩ | rfl
  rotate_left
  · refine lv_if_ne (tgt := 70) hx hb dX10_fit_64 (by decide) (fun q49 => ?_) (fun q49 => ?_)
    · exact absurd rfl q49
    refine lv_bipush (v := (-6)) hx hb dX10_fit_67 (by decide) ?_
    exact ret ((-6)) _ _ _ _ _ _ _ dX10_fit_69 hH ⟨⟨oI, oR, sm⟩, rfl, rfl⟩
  obtain ⟨y22, ey22⟩ : ∃ y : Int32, y = I21 b17 5 := ⟨_, rfl⟩
  have ry22 : Rg y22 (-1) (5) := by rw [ey22]; exact rf_3_5 oI mb17 kb17
  have r23 : Rg y22 (0) (5) := ⟨by rw [ey22]; exact hq21, ry22.2⟩
  refine lv_if_ne (tgt := 70) hx hb dX10_fit_64 (by decide) (fun q24 => ?_) (fun q24 => ?_)
  rotate_left
  · exact absurd q24 (by decide)
  refine lv_iload hx hb dX10_fit_70 (lv_at hl 5 rfl) ?_
  refine lv_if_ne (tgt := 83) hx hb dX10_fit_72 (by decide) (fun q25 => ?_) (fun q25 => ?_)
  rotate_left
  · have l46 := congrArg Int32.toInt q25
    have r47 : Rg x4 (0) (0) := Rg_both r9 (Rg_eqv q25 (Rg_c (x := 0) (a := (0)) (b := (0)) (by decide))) (by decide)
    refine lv_aload_n hx hb dX10_fit_75 rfl (lv_at hl 1 rfl) ?_
    refine gf_10_3 vb17 hx hb hts hown hH m0 k0 rfl kf_X10_35 dX10_fit_76 ?_
    refine gf_3_4 hx hb hts hown hH mb17 kb17 rfl kf_X10_192 dX10_fit_79 ?_
    refine lv_topi (fun y48 ey48 => ?_)
    exact ret (y48) _ _ _ _ _ _ _ dX10_fit_82 hH ⟨⟨oI, oR, sm⟩, rfl, rfl⟩
  have l26 := Rg_ne q25
  have r27 : Rg x4 (1) (5) := Rg_nelo r9 (Rg_ne q25) (Rg_c (x := 0) (a := (0)) (b := (0)) (by decide)) (by decide)
  refine lv_iload hx hb dX10_fit_83 (lv_at hl 5 rfl) ?_
  refine lv_iconst (v := 1) hx hb dX10_fit_85 (by decide) ?_
  refine lv_icmp_ne (tgt := 97) hx hb dX10_fit_86 (by decide) (fun q28 => ?_) (fun q28 => ?_)
  rotate_left
  · have l43 := congrArg Int32.toInt q28
    have r44 : Rg x4 (1) (1) := Rg_both r27 (Rg_eqv q28 (Rg_c (x := 1) (a := (1)) (b := (1)) (by decide))) (by decide)
    refine lv_aload_n hx hb dX10_fit_89 rfl (lv_at hl 1 rfl) ?_
    refine gf_10_3 vb17 hx hb hts hown hH m0 k0 rfl kf_X10_35 dX10_fit_90 ?_
    refine gf_3_5 hx hb hts hown hH mb17 kb17 rfl kf_X10_195 dX10_fit_93 ?_
    refine lv_topi (fun y45 ey45 => ?_)
    obtain rfl : y22 = y45 := ey22.trans ey45.symm
    exact ret (y22) _ _ _ _ _ _ _ dX10_fit_96 hH ⟨⟨oI, oR, sm⟩, rfl, rfl⟩
  have l29 := Rg_ne q28
  have r30 : Rg x4 (2) (5) := Rg_nelo r27 (Rg_ne q28) (Rg_c (x := 1) (a := (1)) (b := (1)) (by decide)) (by decide)
  refine lv_iload hx hb dX10_fit_97 (lv_at hl 5 rfl) ?_
  refine lv_iconst (v := 2) hx hb dX10_fit_99 (by decide) ?_
  refine lv_isub hx hb dX10_fit_100 ?_
  refine lv_topi (fun y31 ey31 => ?_)
  obtain ⟨ty31, ry31⟩ := Rg_subx (a' := (0)) (b' := (3)) (rfl : x4.toInt = _) (by decide : Int32.toInt 2 = 2) r30 (Rg_c (x := 2) (a := (2)) (b := (2)) (by decide)) (by decide)
  rw [← ey31] at ty31 ry31
  refine lv_istore (lv' := [(6, .int y31), (5, .ref b13), (0, .ref a0), (1, .int x1), (2, .int x2), (3, .int x3), (4, .int x4)]) hx hb dX10_fit_101 hl (by decide) rfl (fun ls hl => ?_)
  refine lv_iload hx hb dX10_fit_103 (lv_at hl 0 rfl) ?_
  refine lv_aload_n hx hb dX10_fit_105 rfl (lv_at hl 2 rfl) ?_
  refine gf_10_4 vb11 hx hb hts hown hH m0 k0 rfl kf_X10_41 dX10_fit_106 ?_
  refine lv_iload_n hx hb dX10_fit_109 rfl (lv_at hl 5 rfl) ?_
  refine ld_57 hx hb hH mb11 kb11 (Rg_in r3 (by decide)) vb20 dX10_fit_110 ?_
  obtain ⟨b32, mb32, vb32, kb32⟩ := rf_7_0 oR mb20 kb20
  refine gf_7_0 vb32 hx hb hts hown hH mb20 kb20 rfl kf_X10_154 dX10_fit_111 ?_
  refine lv_aload_n hx hb dX10_fit_114 rfl (lv_at hl 2 rfl) ?_
  refine gf_10_3 vb17 hx hb hts hown hH m0 k0 rfl kf_X10_35 dX10_fit_115 ?_
  refine gf_3_5 hx hb hts hown hH mb17 kb17 rfl kf_X10_195 dX10_fit_118 ?_
  refine lv_topi (fun y33 ey33 => ?_)
  obtain rfl : y22 = y33 := ey22.trans ey33.symm
  obtain ⟨b34, mb34, vb34, kb34⟩ := rr_56 oR mb32 kb32 (Rg_in r23 (by decide))
  refine ld_56 hx hb hH mb32 kb32 (Rg_in r23 (by decide)) vb34 dX10_fit_121 ?_
  refine gf_5_2 hx hb hts hown hH mb34 kb34 rfl kf_X10_164 dX10_fit_122 ?_
  refine lv_topi (fun y35 ey35 => ?_)
  have ry35 : Rg y35 (0) (4) := by rw [ey35]; exact rf_5_2 oI mb34 kb34
  refine lv_icmp_ge (tgt := 141) hx hb dX10_fit_125 (by decide) (fun q36 => ?_) (fun q36 => ?_)
  · have l37 := Rg_le q36
    have r38 : Rg y35 (0) (3) := Rg_ule ry35 (Rg_le q36) ry31 (by decide)
    refine lv_iconst (v := (-1)) hx hb dX10_fit_141 (by decide) ?_
    exact ret ((-1)) _ _ _ _ _ _ _ dX10_fit_142 hH ⟨⟨oI, oR, sm⟩, rfl, rfl⟩
  have l39 := Rg_nle q36
  have r40 : Rg y35 (1) (4) := Rg_llt ry35 (Rg_nle q36) ry31 (by decide)
  refine lv_aload_n hx hb dX10_fit_128 rfl (lv_at hl 2 rfl) ?_
  refine gf_10_3 vb17 hx hb hts hown hH m0 k0 rfl kf_X10_35 dX10_fit_129 ?_
  obtain ⟨b41, mb41, vb41, kb41⟩ := rf_3_6 oR mb17 kb17
  refine gf_3_6 vb41 hx hb hts hown hH mb17 kb17 rfl kf_X10_198 dX10_fit_132 ?_
  refine lv_iload hx hb dX10_fit_135 (lv_at hl 0 rfl) ?_
  refine ld_44 hx hb hH mb41 kb41 (Rg_in ry31 (by decide)) dX10_fit_137 ?_
  refine lv_topi (fun y42 ey42 => ?_)
  have ry42 : Rg y42 (0) (9) := by rw [ey42]; exact rd_44 oI mb41 kb41 (Rg_in ry31 (by decide))
  refine lv_goto (tgt := 142) hx hb dX10_fit_138 (by decide) ?_
  exact ret (y42) _ _ _ _ _ _ _ dX10_fit_142 hH ⟨⟨oI, oR, sm⟩, rfl, rfl⟩
def ms_X10_fits : List Nat := [196, 197, 2752, 2816]
set_option maxHeartbeats 4000000 in
set_option maxRecDepth 100000 in
theorem c_X10_fits {l : Launch} {D : va_G} {cy : Nat → ClassId} {L : List Nat} {C : Nat → Nat} {b0 : Nat} {I : hI} {J : hJ} {R : hR} {a0 : Nat} {x1 : Int32} {x2 : Int32} (oI : OkI L C I) (oR : OkR L C R) (m0 : a0 ∈ L) (k0 : C a0 = 10) : CI l yX10_fits cX10_fits 3 .int 13 D cy L C b0 [.ref a0, .int x1, .int x2] (I, J, R) (fun r v => Ps L C ms_X10_fits (I, J, R) v ∧ v.2.1 = J ∧ v.2.2 = R) := by
  refine CI.mkI (plainFor_of_name (by decide)) (Nat.le_of_ble_eq_true rfl) ?_
  intro p e s m args below meth c ls Q hF ret hH hl
  obtain ⟨hx, hb, -, hml, hown, hts, -⟩ := hF
  have hl : lv_has ls 3 [(0, .ref a0), (1, .int x1), (2, .int x2)] := hl
  have hH : Hp D cy L C b0 s s.heap I J R s.heap [] := hH
  have sm : Sm C ms_X10_fits (I, J, R) (I, J, R) := Sm.rf
  refine lv_iload_n hx hb dX10_fits_0 rfl (lv_at hl 1 rfl) ?_
  refine lv_iload_n hx hb dX10_fits_1 rfl (lv_at hl 2 rfl) ?_
  refine ca_X10_185 hx hb hml hown hts hH (c_X10_areFaceAndShape ) hl.1 (by decide) (Nat.le_of_ble_eq_true rfl) ⟨Nat.zero_le _, Nat.zero_le _⟩ dX10_fits_2 (fun y1 I1 J1 R1 H locs hp hH => ?_)
  obtain ⟨eI1, eJ1, eR1, ry1, hp1, hf1⟩ := hp
  obtain rfl : I = I1 := eI1.symm
  obtain rfl : J = J1 := eJ1.symm
  obtain rfl : R = R1 := eR1.symm
  rcases hp1 with ⟨rfl, hq1⟩ | ⟨rfl, hq1⟩
  rotate_left
  · refine lv_if_ne (tgt := 11) hx hb dX10_fits_5 (by decide) (fun q11 => ?_) (fun q11 => ?_)
    · exact absurd rfl q11
    refine lv_bipush (v := (-3)) hx hb dX10_fits_8 (by decide) ?_
    exact ret ((-3)) _ _ _ _ _ _ _ dX10_fits_10 hH ⟨⟨oI, oR, sm⟩, rfl, rfl⟩
  have r2 : Rg x1 (0) (9) := ⟨by have h9 := (Rg_any x1).1; omega, by have h9 := (Rg_any x1).2; omega⟩
  have r3 : Rg x2 (0) (19) := ⟨by have h9 := (Rg_any x2).1; omega, by have h9 := (Rg_any x2).2; omega⟩
  refine lv_if_ne (tgt := 11) hx hb dX10_fits_5 (by decide) (fun q4 => ?_) (fun q4 => ?_)
  rotate_left
  · exact absurd q4 (by decide)
  refine lv_aload_n hx hb dX10_fits_11 rfl (lv_at hl 0 rfl) ?_
  obtain ⟨b5, mb5, vb5, kb5⟩ := rf_10_3 oR m0 k0
  refine gf_10_3 vb5 hx hb hts hown hH m0 k0 rfl kf_X10_35 dX10_fits_12 ?_
  refine lv_aload_n hx hb dX10_fits_15 rfl (lv_at hl 0 rfl) ?_
  obtain ⟨b6, mb6, vb6, kb6⟩ := rf_10_4 oR m0 k0
  refine gf_10_4 vb6 hx hb hts hown hH m0 k0 rfl kf_X10_41 dX10_fits_16 ?_
  refine lv_bipush (v := 10) hx hb dX10_fits_19 (by decide) ?_
  refine lv_iload_n hx hb dX10_fits_21 rfl (lv_at hl 1 rfl) ?_
  refine lv_iadd hx hb dX10_fits_22 ?_
  refine lv_topi (fun y7 ey7 => ?_)
  obtain ⟨ty7, ry7⟩ := Rg_addx (a' := (10)) (b' := (19)) (by decide : Int32.toInt 10 = 10) (rfl : x1.toInt = _) (Rg_c (x := 10) (a := (10)) (b := (10)) (by decide)) r2 (by decide)
  rw [← ey7] at ty7 ry7
  obtain ⟨b8, mb8, vb8, kb8⟩ := rr_57 oR mb6 kb6 (Rg_in ry7 (by decide))
  refine ld_57 hx hb hH mb6 kb6 (Rg_in ry7 (by decide)) vb8 dX10_fits_23 ?_
  refine lv_aload_n hx hb dX10_fits_24 rfl (lv_at hl 0 rfl) ?_
  refine gf_10_4 vb6 hx hb hts hown hH m0 k0 rfl kf_X10_41 dX10_fits_25 ?_
  refine lv_iload_n hx hb dX10_fits_28 rfl (lv_at hl 2 rfl) ?_
  obtain ⟨b9, mb9, vb9, kb9⟩ := rr_57 oR mb6 kb6 (Rg_in r3 (by decide))
  refine ld_57 hx hb hH mb6 kb6 (Rg_in r3 (by decide)) vb9 dX10_fits_29 ?_
  refine ca_X10_201 hx hb hml hown hts hH (c_X3_costOfAll oI oR mb5 kb5 mb8 kb8 mb9 kb9) hl.1 mb5 kb5 rfl (by decide) (Nat.le_of_ble_eq_true rfl) ⟨Nat.zero_le _, Nat.zero_le _⟩ dX10_fits_30 (fun y10 I10 J10 R10 H locs hp hH => ?_)
  obtain ⟨⟨oI, -, sc10⟩, eJ10, eR10, hf10⟩ := hp
  obtain rfl : J = J10 := eJ10.symm
  obtain rfl : R = R10 := eR10.symm
  have sm : Sm C ms_X10_fits (I, J, R) (I10, J, R) := sm.tr sc10 rfl
  exact ret (y10) _ _ _ _ _ _ _ dX10_fits_33 hH ⟨⟨oI, oR, sm⟩, rfl, rfl⟩
def ms_X10_gap : List Nat := [196, 197, 2752, 2816]
set_option maxHeartbeats 4000000 in
set_option maxRecDepth 100000 in
theorem c_X10_gap {l : Launch} {D : va_G} {cy : Nat → ClassId} {L : List Nat} {C : Nat → Nat} {b0 : Nat} {I : hI} {J : hJ} {R : hR} {a0 : Nat} {x1 : Int32} {x2 : Int32} (oI : OkI L C I) (oR : OkR L C R) (m0 : a0 ∈ L) (k0 : C a0 = 10) : CI l yX10_gap cX10_gap 3 .int 13 D cy L C b0 [.ref a0, .int x1, .int x2] (I, J, R) (fun r v => Ps L C ms_X10_gap (I, J, R) v ∧ v.2.1 = J ∧ v.2.2 = R ∧ Rg r (-3) (5)) := by
  refine CI.mkI (plainFor_of_name (by decide)) (Nat.le_of_ble_eq_true rfl) ?_
  intro p e s m args below meth c ls Q hF ret hH hl
  obtain ⟨hx, hb, -, hml, hown, hts, -⟩ := hF
  have hl : lv_has ls 3 [(0, .ref a0), (1, .int x1), (2, .int x2)] := hl
  have hH : Hp D cy L C b0 s s.heap I J R s.heap [] := hH
  have sm : Sm C ms_X10_gap (I, J, R) (I, J, R) := Sm.rf
  refine lv_iload_n hx hb dX10_gap_0 rfl (lv_at hl 1 rfl) ?_
  refine lv_iload_n hx hb dX10_gap_1 rfl (lv_at hl 2 rfl) ?_
  refine ca_X10_185 hx hb hml hown hts hH (c_X10_areFaceAndShape ) hl.1 (by decide) (Nat.le_of_ble_eq_true rfl) ⟨Nat.zero_le _, Nat.zero_le _⟩ dX10_gap_2 (fun y1 I1 J1 R1 H locs hp hH => ?_)
  obtain ⟨eI1, eJ1, eR1, ry1, hp1, hf1⟩ := hp
  obtain rfl : I = I1 := eI1.symm
  obtain rfl : J = J1 := eJ1.symm
  obtain rfl : R = R1 := eR1.symm
  rcases hp1 with ⟨rfl, hq1⟩ | ⟨rfl, hq1⟩
  rotate_left
  · refine lv_if_ne (tgt := 11) hx hb dX10_gap_5 (by decide) (fun q11 => ?_) (fun q11 => ?_)
    · exact absurd rfl q11
    refine lv_bipush (v := (-3)) hx hb dX10_gap_8 (by decide) ?_
    exact ret ((-3)) _ _ _ _ _ _ _ dX10_gap_10 hH ⟨⟨oI, oR, sm⟩, rfl, rfl, (Rg_w (Rg_c (x := (-3)) (a := (-3)) (b := (-3)) (by decide)) (by decide))⟩
  have r2 : Rg x1 (0) (9) := ⟨by have h9 := (Rg_any x1).1; omega, by have h9 := (Rg_any x1).2; omega⟩
  have r3 : Rg x2 (0) (19) := ⟨by have h9 := (Rg_any x2).1; omega, by have h9 := (Rg_any x2).2; omega⟩
  refine lv_if_ne (tgt := 11) hx hb dX10_gap_5 (by decide) (fun q4 => ?_) (fun q4 => ?_)
  rotate_left
  · exact absurd q4 (by decide)
  refine lv_aload_n hx hb dX10_gap_11 rfl (lv_at hl 0 rfl) ?_
  obtain ⟨b5, mb5, vb5, kb5⟩ := rf_10_3 oR m0 k0
  refine gf_10_3 vb5 hx hb hts hown hH m0 k0 rfl kf_X10_35 dX10_gap_12 ?_
  refine lv_aload_n hx hb dX10_gap_15 rfl (lv_at hl 0 rfl) ?_
  obtain ⟨b6, mb6, vb6, kb6⟩ := rf_10_4 oR m0 k0
  refine gf_10_4 vb6 hx hb hts hown hH m0 k0 rfl kf_X10_41 dX10_gap_16 ?_
  refine lv_bipush (v := 10) hx hb dX10_gap_19 (by decide) ?_
  refine lv_iload_n hx hb dX10_gap_21 rfl (lv_at hl 1 rfl) ?_
  refine lv_iadd hx hb dX10_gap_22 ?_
  refine lv_topi (fun y7 ey7 => ?_)
  obtain ⟨ty7, ry7⟩ := Rg_addx (a' := (10)) (b' := (19)) (by decide : Int32.toInt 10 = 10) (rfl : x1.toInt = _) (Rg_c (x := 10) (a := (10)) (b := (10)) (by decide)) r2 (by decide)
  rw [← ey7] at ty7 ry7
  obtain ⟨b8, mb8, vb8, kb8⟩ := rr_57 oR mb6 kb6 (Rg_in ry7 (by decide))
  refine ld_57 hx hb hH mb6 kb6 (Rg_in ry7 (by decide)) vb8 dX10_gap_23 ?_
  refine lv_aload_n hx hb dX10_gap_24 rfl (lv_at hl 0 rfl) ?_
  refine gf_10_4 vb6 hx hb hts hown hH m0 k0 rfl kf_X10_41 dX10_gap_25 ?_
  refine lv_iload_n hx hb dX10_gap_28 rfl (lv_at hl 2 rfl) ?_
  obtain ⟨b9, mb9, vb9, kb9⟩ := rr_57 oR mb6 kb6 (Rg_in r3 (by decide))
  refine ld_57 hx hb hH mb6 kb6 (Rg_in r3 (by decide)) vb9 dX10_gap_29 ?_
  refine ca_X10_205 hx hb hml hown hts hH (c_X3_firstGap oI oR mb5 kb5 mb8 kb8 mb9 kb9) hl.1 mb5 kb5 rfl (by decide) (Nat.le_of_ble_eq_true rfl) ⟨Nat.zero_le _, Nat.zero_le _⟩ dX10_gap_30 (fun y10 I10 J10 R10 H locs hp hH => ?_)
  obtain ⟨⟨oI, -, sc10⟩, eJ10, eR10, ry10⟩ := hp
  obtain rfl : J = J10 := eJ10.symm
  obtain rfl : R = R10 := eR10.symm
  have sm : Sm C ms_X10_gap (I, J, R) (I10, J, R) := sm.tr sc10 rfl
  exact ret (y10) _ _ _ _ _ _ _ dX10_gap_33 hH ⟨⟨oI, oR, sm⟩, rfl, rfl, (Rg_w ry10 (by decide))⟩
noncomputable def F_X10_way (a0 : Nat) (x1 : Int32) (x2 : Int32) (x3 : Int32) (I : hI) (J : hJ) (R : hR) : Int32 × hU :=
  nm (F_X10_areFaces x1 x2) fun y1 => (if y1 = (1 : Int32) then (if (0 : Int32) ≤ x3 then nm ((R a0 5).getD 0) fun b8 => nmU (F_X9_find b8 x1 x2 I J R) fun y9 I9 _ _ => (if y9 = (0 : Int32) then ((-1 : Int32), (I9, J, R)) else (if x3 = (0 : Int32) then nm (I9 b8 4) fun y35 => (y35, (I9, J, R)) else (if x3 = (1 : Int32) then nm (I9 b8 5) fun y32 => (y32, (I9, J, R)) else nm (x3 - (2 : Int32)) fun y19 => nm (I9 b8 5) fun y20 => (if y20 ≤ y19 then ((-1 : Int32), (I9, J, R)) else nm ((R b8 6).getD 0) fun b27 => nm (I9 b27 (Int32.toNatClampNeg y19)) fun y29 => (y29, (I9, J, R)))))) else ((-3 : Int32), (I, J, R))) else ((-3 : Int32), (I, J, R)))
def ms_X10_way : List Nat := [196, 197, 580, 581, 2752, 2816, 2880, 2944, 3008]
set_option maxHeartbeats 4000000 in
set_option maxRecDepth 100000 in
theorem c_X10_way {l : Launch} {D : va_G} {cy : Nat → ClassId} {L : List Nat} {C : Nat → Nat} {b0 : Nat} {I : hI} {J : hJ} {R : hR} {a0 : Nat} {x1 : Int32} {x2 : Int32} {x3 : Int32} (oI : OkI L C I) (oR : OkR L C R) (m0 : a0 ∈ L) (k0 : C a0 = 10) : CI l yX10_way cX10_way 4 .int 15 D cy L C b0 [.ref a0, .int x1, .int x2, .int x3] (I, J, R) (fun r v => Ps L C ms_X10_way (I, J, R) v ∧ v.2.1 = J ∧ v.2.2 = R ∧ F_X10_way a0 x1 x2 x3 I J R = (r, v)) := by
  refine CI.mkI (plainFor_of_name (by decide)) (Nat.le_of_ble_eq_true rfl) ?_
  intro p e s m args below meth c ls Q hF ret hH hl
  obtain ⟨hx, hb, -, hml, hown, hts, -⟩ := hF
  have hl : lv_has ls 4 [(0, .ref a0), (1, .int x1), (2, .int x2), (3, .int x3)] := hl
  have hH : Hp D cy L C b0 s s.heap I J R s.heap [] := hH
  have sm : Sm C ms_X10_way (I, J, R) (I, J, R) := Sm.rf
  obtain ⟨TT0, hT⟩ : ∃ TT0, TT0 = F_X10_way a0 x1 x2 x3 I J R := ⟨_, rfl⟩
  have hv := hT
  unfold F_X10_way at hv
  refine lv_iload_n hx hb dX10_way_0 rfl (lv_at hl 1 rfl) ?_
  refine lv_iload_n hx hb dX10_way_1 rfl (lv_at hl 2 rfl) ?_
  refine ca_X10_208 hx hb hml hown hts hH (c_X10_areFaces ) hl.1 (by decide) (Nat.le_of_ble_eq_true rfl) ⟨Nat.zero_le _, Nat.zero_le _⟩ dX10_way_2 (fun y1 I1 J1 R1 H locs hp hH => ?_)
  obtain ⟨eI1, eJ1, eR1, ry1, hp1, hf1⟩ := hp
  obtain rfl : I = I1 := eI1.symm
  obtain rfl : J = J1 := eJ1.symm
  obtain rfl : R = R1 := eR1.symm
  replace hv := fnS hv hf1.symm
  rcases hp1 with ⟨rfl, hq1⟩ | ⟨rfl, hq1⟩
  rotate_left
  · replace hv := fnN hv (by decide)
    refine lv_if_eq (tgt := 12) hx hb dX10_way_5 (by decide) (fun q40 => ?_) (fun q40 => ?_)
    rotate_left
    · exact absurd rfl q40
    refine lv_bipush (v := (-3)) hx hb dX10_way_12 (by decide) ?_
    exact ret ((-3)) _ _ _ _ _ _ _ dX10_way_14 hH ⟨⟨oI, oR, sm⟩, rfl, rfl, (hT.symm.trans hv)⟩
  replace hv := fnP hv rfl
  have r2 : Rg x1 (0) (9) := ⟨by have h9 := (Rg_any x1).1; omega, by have h9 := (Rg_any x1).2; omega⟩
  have r3 : Rg x2 (0) (9) := ⟨by have h9 := (Rg_any x2).1; omega, by have h9 := (Rg_any x2).2; omega⟩
  refine lv_if_eq (tgt := 12) hx hb dX10_way_5 (by decide) (fun q4 => ?_) (fun q4 => ?_)
  · exact absurd q4 (by decide)
  refine lv_iload_n hx hb dX10_way_8 rfl (lv_at hl 3 rfl) ?_
  refine lv_if_ge (tgt := 15) hx hb dX10_way_9 (by decide) (fun q5 => ?_) (fun q5 => ?_)
  rotate_left
  · replace hv := fnN hv q5
    have l38 := Rg_nle q5
    have r39 : Rg x3 (-2147483648) (-1) := Rg_ult (Rg_any x3) (Rg_nle q5) (Rg_c (x := 0) (a := (0)) (b := (0)) (by decide)) (by decide)
    refine lv_bipush (v := (-3)) hx hb dX10_way_12 (by decide) ?_
    exact ret ((-3)) _ _ _ _ _ _ _ dX10_way_14 hH ⟨⟨oI, oR, sm⟩, rfl, rfl, (hT.symm.trans hv)⟩
  replace hv := fnP hv q5
  have l6 := Rg_le q5
  have r7 : Rg x3 (0) (2147483647) := Rg_lle (Rg_any x3) (Rg_le q5) (Rg_c (x := 0) (a := (0)) (b := (0)) (by decide)) (by decide)
  refine lv_aload_n hx hb dX10_way_15 rfl (lv_at hl 0 rfl) ?_
  obtain ⟨b8, mb8, vb8, kb8⟩ := rf_10_5 oR m0 k0
  replace hv := fnR hv vb8
  refine gf_10_5 vb8 hx hb hts hown hH m0 k0 rfl kf_X10_50 dX10_way_16 ?_
  refine lv_iload_n hx hb dX10_way_19 rfl (lv_at hl 1 rfl) ?_
  refine lv_iload_n hx hb dX10_way_20 rfl (lv_at hl 2 rfl) ?_
  refine ca_X10_211 hx hb hml hown hts hH (c_X9_find oI oR mb8 kb8 r2 r3) hl.1 mb8 kb8 rfl (by decide) (Nat.le_of_ble_eq_true rfl) ⟨Nat.zero_le _, Nat.zero_le _⟩ dX10_way_21 (fun y9 I9 J9 R9 H locs hp hH => ?_)
  obtain ⟨⟨oI, -, sc9⟩, eJ9, eR9, ry9, hf9⟩ := hp
  obtain rfl : J = J9 := eJ9.symm
  obtain rfl : R = R9 := eR9.symm
  replace hv := fnC hv hf9
  have sm : Sm C ms_X10_way (I, J, R) (I9, J, R) := sm.tr sc9 rfl
  refine lv_if_ne (tgt := 29) hx hb dX10_way_24 (by decide) (fun q10 => ?_) (fun q10 => ?_)
  rotate_left
  · replace hv := fnP hv q10
    have l36 := congrArg Int32.toInt q10
    have r37 : Rg y9 (0) (0) := Rg_both ry9 (Rg_eqv q10 (Rg_c (x := 0) (a := (0)) (b := (0)) (by decide))) (by decide)
    refine lv_iconst (v := (-1)) hx hb dX10_way_27 (by decide) ?_
    exact ret ((-1)) _ _ _ _ _ _ _ dX10_way_28 hH ⟨⟨oI, oR, sm⟩, rfl, rfl, (hT.symm.trans hv)⟩
  replace hv := fnN hv q10
  have l11 := Rg_ne q10
  have r12 : Rg y9 (1) (1) := Rg_nelo ry9 (Rg_ne q10) (Rg_c (x := 0) (a := (0)) (b := (0)) (by decide)) (by decide)
  refine lv_iload_n hx hb dX10_way_29 rfl (lv_at hl 3 rfl) ?_
  refine lv_if_ne (tgt := 41) hx hb dX10_way_30 (by decide) (fun q13 => ?_) (fun q13 => ?_)
  rotate_left
  · replace hv := fnP hv q13
    have l33 := congrArg Int32.toInt q13
    have r34 : Rg x3 (0) (0) := Rg_both r7 (Rg_eqv q13 (Rg_c (x := 0) (a := (0)) (b := (0)) (by decide))) (by decide)
    refine lv_aload_n hx hb dX10_way_33 rfl (lv_at hl 0 rfl) ?_
    refine gf_10_5 vb8 hx hb hts hown hH m0 k0 rfl kf_X10_50 dX10_way_34 ?_
    refine gf_9_4 hx hb hts hown hH mb8 kb8 rfl kf_X10_213 dX10_way_37 ?_
    refine lv_topi (fun y35 ey35 => ?_)
    replace hv := fnS hv ey35
    exact ret (y35) _ _ _ _ _ _ _ dX10_way_40 hH ⟨⟨oI, oR, sm⟩, rfl, rfl, (hT.symm.trans hv)⟩
  replace hv := fnN hv q13
  have l14 := Rg_ne q13
  have r15 : Rg x3 (1) (2147483647) := Rg_nelo r7 (Rg_ne q13) (Rg_c (x := 0) (a := (0)) (b := (0)) (by decide)) (by decide)
  refine lv_iload_n hx hb dX10_way_41 rfl (lv_at hl 3 rfl) ?_
  refine lv_iconst (v := 1) hx hb dX10_way_42 (by decide) ?_
  refine lv_icmp_ne (tgt := 54) hx hb dX10_way_43 (by decide) (fun q16 => ?_) (fun q16 => ?_)
  rotate_left
  · replace hv := fnP hv q16
    have l30 := congrArg Int32.toInt q16
    have r31 : Rg x3 (1) (1) := Rg_both r15 (Rg_eqv q16 (Rg_c (x := 1) (a := (1)) (b := (1)) (by decide))) (by decide)
    refine lv_aload_n hx hb dX10_way_46 rfl (lv_at hl 0 rfl) ?_
    refine gf_10_5 vb8 hx hb hts hown hH m0 k0 rfl kf_X10_50 dX10_way_47 ?_
    refine gf_9_5 hx hb hts hown hH mb8 kb8 rfl kf_X10_214 dX10_way_50 ?_
    refine lv_topi (fun y32 ey32 => ?_)
    have ry32 : Rg y32 (0) (10) := by rw [ey32]; exact rf_9_5 oI mb8 kb8
    replace hv := fnS hv ey32
    exact ret (y32) _ _ _ _ _ _ _ dX10_way_53 hH ⟨⟨oI, oR, sm⟩, rfl, rfl, (hT.symm.trans hv)⟩
  replace hv := fnN hv q16
  have l17 := Rg_ne q16
  have r18 : Rg x3 (2) (2147483647) := Rg_nelo r15 (Rg_ne q16) (Rg_c (x := 1) (a := (1)) (b := (1)) (by decide)) (by decide)
  refine lv_iload_n hx hb dX10_way_54 rfl (lv_at hl 3 rfl) ?_
  refine lv_iconst (v := 2) hx hb dX10_way_55 (by decide) ?_
  refine lv_isub hx hb dX10_way_56 ?_
  refine lv_topi (fun y19 ey19 => ?_)
  replace hv := fnS hv ey19
  obtain ⟨ty19, ry19⟩ := Rg_subx (a' := (0)) (b' := (2147483645)) (rfl : x3.toInt = _) (by decide : Int32.toInt 2 = 2) r18 (Rg_c (x := 2) (a := (2)) (b := (2)) (by decide)) (by decide)
  rw [← ey19] at ty19 ry19
  refine lv_aload_n hx hb dX10_way_57 rfl (lv_at hl 0 rfl) ?_
  refine gf_10_5 vb8 hx hb hts hown hH m0 k0 rfl kf_X10_50 dX10_way_58 ?_
  refine gf_9_5 hx hb hts hown hH mb8 kb8 rfl kf_X10_214 dX10_way_61 ?_
  refine lv_topi (fun y20 ey20 => ?_)
  have ry20 : Rg y20 (0) (10) := by rw [ey20]; exact rf_9_5 oI mb8 kb8
  replace hv := fnS hv ey20
  refine lv_icmp_ge (tgt := 81) hx hb dX10_way_64 (by decide) (fun q21 => ?_) (fun q21 => ?_)
  · replace hv := fnP hv q21
    have l22 := Rg_le q21
    refine lv_iconst (v := (-1)) hx hb dX10_way_81 (by decide) ?_
    exact ret ((-1)) _ _ _ _ _ _ _ dX10_way_82 hH ⟨⟨oI, oR, sm⟩, rfl, rfl, (hT.symm.trans hv)⟩
  replace hv := fnN hv q21
  have l23 := Rg_nle q21
  have r24 : Rg y19 (0) (9) := Rg_ult ry19 (Rg_nle q21) ry20 (by decide)
  have r25 : Rg x3 (2) (11) := by have a1 := r24.1; have a2 := r24.2; have a3 := r18.1; have a4 := r18.2; exact ⟨by omega, by omega⟩
  have r26 : Rg y20 (1) (10) := Rg_llt ry20 (Rg_nle q21) ry19 (by decide)
  refine lv_aload_n hx hb dX10_way_67 rfl (lv_at hl 0 rfl) ?_
  refine gf_10_5 vb8 hx hb hts hown hH m0 k0 rfl kf_X10_50 dX10_way_68 ?_
  obtain ⟨b27, mb27, vb27, kb27⟩ := rf_9_6 oR mb8 kb8
  replace hv := fnR hv vb27
  refine gf_9_6 vb27 hx hb hts hown hH mb8 kb8 rfl kf_X10_217 dX10_way_71 ?_
  refine lv_iload_n hx hb dX10_way_74 rfl (lv_at hl 3 rfl) ?_
  refine lv_iconst (v := 2) hx hb dX10_way_75 (by decide) ?_
  refine lv_isub hx hb dX10_way_76 ?_
  refine lv_topi (fun y28 ey28 => ?_)
  obtain rfl : y19 = y28 := ey19.trans ey28.symm
  refine ld_47 hx hb hH mb27 kb27 (Rg_in r24 (by decide)) dX10_way_77 ?_
  refine lv_topi (fun y29 ey29 => ?_)
  have ry29 : Rg y29 (0) (9) := by rw [ey29]; exact rd_47 oI mb27 kb27 (Rg_in r24 (by decide))
  replace hv := fnS hv ey29
  refine lv_goto (tgt := 82) hx hb dX10_way_78 (by decide) ?_
  exact ret (y29) _ _ _ _ _ _ _ dX10_way_82 hH ⟨⟨oI, oR, sm⟩, rfl, rfl, (hT.symm.trans hv)⟩
noncomputable def F_X10_object (a0 : Nat) (x1 : Int32) (I : hI) (J : hJ) (R : hR) : Int32 × hU :=
  nm (F_X10_isWithin x1 (0 : Int32) (9 : Int32)) fun y1 => (if y1 = (1 : Int32) then nm ((R a0 6).getD 0) fun b7 => nm (I b7 2) fun y8 => (if y8 < (20 : Int32) then nmU (F_X8_add b7 x1 I J R) fun y12 I12 _ _ => (y12, (I12, J, R)) else ((-5 : Int32), (I, J, R))) else ((-3 : Int32), (I, J, R)))
def ms_X10_object : List Nat := [514, 3072]
set_option maxHeartbeats 4000000 in
set_option maxRecDepth 100000 in
theorem c_X10_object {l : Launch} {D : va_G} {cy : Nat → ClassId} {L : List Nat} {C : Nat → Nat} {b0 : Nat} {I : hI} {J : hJ} {R : hR} {a0 : Nat} {x1 : Int32} (oI : OkI L C I) (oR : OkR L C R) (m0 : a0 ∈ L) (k0 : C a0 = 10) (hU : Uq L C) : CI l yX10_object cX10_object 2 .int 1 D cy L C b0 [.ref a0, .int x1] (I, J, R) (fun r v => Ps L C ms_X10_object (I, J, R) v ∧ v.2.1 = J ∧ v.2.2 = R ∧ Rg r (-5) (19) ∧ (∀ th ∈ L, C th = 8 → r = (objF (I th 2) x1).1 ∧ v.1 th 2 = (objF (I th 2) x1).2) ∧ F_X10_object a0 x1 I J R = (r, v)) := by
  refine CI.mkI (plainFor_of_name (by decide)) (Nat.le_of_ble_eq_true rfl) ?_
  intro p e s m args below meth c ls Q hF ret hH hl
  obtain ⟨hx, hb, -, hml, hown, hts, -⟩ := hF
  have hl : lv_has ls 2 [(0, .ref a0), (1, .int x1)] := hl
  have hH : Hp D cy L C b0 s s.heap I J R s.heap [] := hH
  have sm : Sm C ms_X10_object (I, J, R) (I, J, R) := Sm.rf
  obtain ⟨TT0, hT⟩ : ∃ TT0, TT0 = F_X10_object a0 x1 I J R := ⟨_, rfl⟩
  have hv := hT
  unfold F_X10_object at hv
  refine lv_iload_n hx hb dX10_object_0 rfl (lv_at hl 1 rfl) ?_
  refine lv_iconst (v := 0) hx hb dX10_object_1 (by decide) ?_
  refine lv_bipush (v := 9) hx hb dX10_object_2 (by decide) ?_
  refine ca_X10_82 hx hb hml hown hts hH (c_X10_isWithin ) hl.1 (by decide) (Nat.le_of_ble_eq_true rfl) ⟨Nat.zero_le _, Nat.zero_le _⟩ dX10_object_4 (fun y1 I1 J1 R1 H locs hp hH => ?_)
  obtain ⟨eI1, eJ1, eR1, ry1, hp1, hf1⟩ := hp
  obtain rfl : I = I1 := eI1.symm
  obtain rfl : J = J1 := eJ1.symm
  obtain rfl : R = R1 := eR1.symm
  replace hv := fnS hv hf1.symm
  rcases hp1 with ⟨rfl, hq1⟩ | ⟨rfl, hq1⟩
  rotate_left
  · replace hv := fnN hv (by decide)
    refine lv_if_ne (tgt := 13) hx hb dX10_object_7 (by decide) (fun q15 => ?_) (fun q15 => ?_)
    · exact absurd rfl q15
    refine lv_bipush (v := (-3)) hx hb dX10_object_10 (by decide) ?_
    exact ret ((-3)) _ _ _ _ _ _ _ dX10_object_12 hH ⟨⟨oI, oR, sm⟩, rfl, rfl, (Rg_w (Rg_c (x := (-3)) (a := (-3)) (b := (-3)) (by decide)) (by decide)), (by intro th mth kth; show _ ∧ I th 2 = _; rw [objF_out (by have h9 := hq1; rw [show Int32.toInt 0 = 0 by decide, show Int32.toInt 9 = 9 by decide] at h9; exact h9)]; exact ⟨rfl, rfl⟩), (hT.symm.trans hv)⟩
  replace hv := fnP hv rfl
  have l2 := hq1.1
  have r3 : Rg x1 (0) (2147483647) := Rg_lle (Rg_any x1) l2 (Rg_c (x := 0) (a := (0)) (b := (0)) (by decide)) (by decide)
  have l4 := hq1.2
  have r5 : Rg x1 (0) (9) := Rg_ule r3 l4 (Rg_c (x := 9) (a := (9)) (b := (9)) (by decide)) (by decide)
  refine lv_if_ne (tgt := 13) hx hb dX10_object_7 (by decide) (fun q6 => ?_) (fun q6 => ?_)
  rotate_left
  · exact absurd q6 (by decide)
  refine lv_aload_n hx hb dX10_object_13 rfl (lv_at hl 0 rfl) ?_
  obtain ⟨b7, mb7, vb7, kb7⟩ := rf_10_6 oR m0 k0
  replace hv := fnR hv vb7
  refine gf_10_6 vb7 hx hb hts hown hH m0 k0 rfl kf_X10_57 dX10_object_14 ?_
  refine gf_8_2 hx hb hts hown hH mb7 kb7 rfl kf_X10_220 dX10_object_17 ?_
  refine lv_topi (fun y8 ey8 => ?_)
  have ry8 : Rg y8 (0) (20) := by rw [ey8]; exact rf_8_2 oI mb7 kb7
  replace hv := fnS hv ey8
  refine lv_bipush (v := 20) hx hb dX10_object_20 (by decide) ?_
  refine lv_icmp_lt (tgt := 30) hx hb dX10_object_22 (by decide) (fun q9 => ?_) (fun q9 => ?_)
  rotate_left
  · replace hv := fnN hv q9
    have l13 := Rg_nlt q9
    have r14 : Rg y8 (20) (20) := Rg_lle ry8 (Rg_nlt q9) (Rg_c (x := 20) (a := (20)) (b := (20)) (by decide)) (by decide)
    refine lv_bipush (v := (-5)) hx hb dX10_object_25 (by decide) ?_
    refine lv_goto (tgt := 38) hx hb dX10_object_27 (by decide) ?_
    exact ret ((-5)) _ _ _ _ _ _ _ dX10_object_38 hH ⟨⟨oI, oR, sm⟩, rfl, rfl, (Rg_w (Rg_c (x := (-5)) (a := (-5)) (b := (-5)) (by decide)) (by decide)), (by intro th mth kth; show _ ∧ I th 2 = _; rw [hU th mth b7 mb7 (kth.trans kb7.symm) (by rw [kth]; rfl)]; rw [objF_full r5 (by rw [← ey8]; have a1 := r14.1; omega)]; exact ⟨rfl, rfl⟩), (hT.symm.trans hv)⟩
  replace hv := fnP hv q9
  have l10 := Rg_lt q9
  have r11 : Rg y8 (0) (19) := Rg_ult ry8 (Rg_lt q9) (Rg_c (x := 20) (a := (20)) (b := (20)) (by decide)) (by decide)
  refine lv_aload_n hx hb dX10_object_30 rfl (lv_at hl 0 rfl) ?_
  refine gf_10_6 vb7 hx hb hts hown hH m0 k0 rfl kf_X10_57 dX10_object_31 ?_
  refine lv_iload_n hx hb dX10_object_34 rfl (lv_at hl 1 rfl) ?_
  refine ca_X10_221 hx hb hml hown hts hH (c_X8_add oI oR mb7 kb7 r5 (by rw [← ey8]; exact Rg_w r11 (by decide))) hl.1 mb7 kb7 rfl (by decide) (Nat.le_of_ble_eq_true rfl) ⟨Nat.zero_le _, Nat.zero_le _⟩ dX10_object_35 (fun y12 I12 J12 R12 H locs hp hH => ?_)
  obtain ⟨⟨oI, -, sc12⟩, eJ12, eR12, ry12, hp12, hf12⟩ := hp
  obtain rfl : J = J12 := eJ12.symm
  obtain rfl : R = R12 := eR12.symm
  replace hv := fnC hv hf12
  have sm : Sm C ms_X10_object (I, J, R) (I12, J, R) := sm.tr sc12 rfl
  exact ret (y12) _ _ _ _ _ _ _ dX10_object_38 hH ⟨⟨oI, oR, sm⟩, rfl, rfl, (Rg_w ry12 (by decide)), (by intro th mth kth; show _ ∧ I12 th 2 = _; rw [hU th mth b7 mb7 (kth.trans kb7.symm) (by rw [kth]; rfl)]; rw [objF_ok r5 (by rw [← ey8]; have a1 := r11.2; omega)]; exact hp12), (hT.symm.trans hv)⟩
noncomputable def F_X10_put (a0 : Nat) (x1 : Int32) (x2 : Int32) (x3 : Int64) (I : hI) (J : hJ) (R : hR) : Int32 × hU :=
  nm ((R a0 6).getD 0) fun b1 => nm (F_X8_has b1 x1 I J R) fun y2 => (if y2 = (1 : Int32) then nm (F_X10_isWithin x2 (0 : Int32) (2 : Int32)) fun y5 => (if y5 = (1 : Int32) then nm ((R b1 1).getD 0) fun b11 => nm (x1 * (3 : Int32)) fun y12 => nm (y12 + x2) fun y13 => nm (u2 J b11 (Int32.toNatClampNeg y13) x3) fun J14 => ((0 : Int32), (I, J14, R)) else ((-3 : Int32), (I, J, R))) else ((-2 : Int32), (I, J, R)))
def ms_X10_put : List Nat := [3136]
set_option maxHeartbeats 4000000 in
set_option maxRecDepth 100000 in
theorem c_X10_put {l : Launch} {D : va_G} {cy : Nat → ClassId} {L : List Nat} {C : Nat → Nat} {b0 : Nat} {I : hI} {J : hJ} {R : hR} {a0 : Nat} {x1 : Int32} {x2 : Int32} {x3 : Int64} (oI : OkI L C I) (oR : OkR L C R) (m0 : a0 ∈ L) (k0 : C a0 = 10) (hU : Uq L C) : CI l yX10_put cX10_put 5 .int 2 D cy L C b0 [.ref a0, .int x1, .int x2, .long x3] (I, J, R) (fun r v => Ps L C ms_X10_put (I, J, R) v ∧ v.1 = I ∧ v.2.2 = R ∧ Rg r (-3) (0) ∧ (∀ th ∈ L, C th = 8 → r = putF (I th 2) x1 x2) ∧ F_X10_put a0 x1 x2 x3 I J R = (r, v)) := by
  refine CI.mkI (plainFor_of_name (by decide)) (Nat.le_of_ble_eq_true rfl) ?_
  intro p e s m args below meth c ls Q hF ret hH hl
  obtain ⟨hx, hb, -, hml, hown, hts, -⟩ := hF
  have hl : lv_has ls 5 [(0, .ref a0), (1, .int x1), (2, .int x2), (3, .long x3)] := hl
  have hH : Hp D cy L C b0 s s.heap I J R s.heap [] := hH
  have sm : Sm C ms_X10_put (I, J, R) (I, J, R) := Sm.rf
  obtain ⟨TT0, hT⟩ : ∃ TT0, TT0 = F_X10_put a0 x1 x2 x3 I J R := ⟨_, rfl⟩
  have hv := hT
  unfold F_X10_put at hv
  refine lv_aload_n hx hb dX10_put_0 rfl (lv_at hl 0 rfl) ?_
  obtain ⟨b1, mb1, vb1, kb1⟩ := rf_10_6 oR m0 k0
  replace hv := fnR hv vb1
  refine gf_10_6 vb1 hx hb hts hown hH m0 k0 rfl kf_X10_57 dX10_put_1 ?_
  refine lv_iload_n hx hb dX10_put_4 rfl (lv_at hl 1 rfl) ?_
  refine ca_X10_224 hx hb hml hown hts hH (c_X8_has oI oR mb1 kb1) hl.1 mb1 kb1 rfl (by decide) (Nat.le_of_ble_eq_true rfl) ⟨Nat.zero_le _, Nat.zero_le _⟩ dX10_put_5 (fun y2 I2 J2 R2 H locs hp hH => ?_)
  obtain ⟨eI2, eJ2, eR2, ry2, hp2, hf2⟩ := hp
  obtain rfl : I = I2 := eI2.symm
  obtain rfl : J = J2 := eJ2.symm
  obtain rfl : R = R2 := eR2.symm
  replace hv := fnS hv hf2.symm
  rcases hp2 with ⟨rfl, hq2⟩ | ⟨rfl, hq2⟩
  rotate_left
  · replace hv := fnN hv (by decide)
    refine lv_if_ne (tgt := 14) hx hb dX10_put_8 (by decide) (fun q16 => ?_) (fun q16 => ?_)
    · exact absurd rfl q16
    refine lv_bipush (v := (-2)) hx hb dX10_put_11 (by decide) ?_
    exact ret ((-2)) _ _ _ _ _ _ _ dX10_put_13 hH ⟨⟨oI, oR, sm⟩, rfl, rfl, (Rg_w (Rg_c (x := (-2)) (a := (-2)) (b := (-2)) (by decide)) (by decide)), (by intro th mth kth; rw [hU th mth b1 mb1 (kth.trans kb1.symm) (by rw [kth]; rfl)]; rw [putF_no hq2]), (hT.symm.trans hv)⟩
  replace hv := fnP hv rfl
  have r3 : Rg x1 (0) (19) := ⟨by have h9 := (Rg_any x1).1; omega, by have h9 := (Rg_any x1).2; omega⟩
  refine lv_if_ne (tgt := 14) hx hb dX10_put_8 (by decide) (fun q4 => ?_) (fun q4 => ?_)
  rotate_left
  · exact absurd q4 (by decide)
  refine lv_iload_n hx hb dX10_put_14 rfl (lv_at hl 2 rfl) ?_
  refine lv_iconst (v := 0) hx hb dX10_put_15 (by decide) ?_
  refine lv_iconst (v := 2) hx hb dX10_put_16 (by decide) ?_
  refine ca_X10_82 hx hb hml hown hts hH (c_X10_isWithin ) hl.1 (by decide) (Nat.le_of_ble_eq_true rfl) ⟨Nat.zero_le _, Nat.zero_le _⟩ dX10_put_17 (fun y5 I5 J5 R5 H locs hp hH => ?_)
  obtain ⟨eI5, eJ5, eR5, ry5, hp5, hf5⟩ := hp
  obtain rfl : I = I5 := eI5.symm
  obtain rfl : J = J5 := eJ5.symm
  obtain rfl : R = R5 := eR5.symm
  replace hv := fnS hv hf5.symm
  rcases hp5 with ⟨rfl, hq5⟩ | ⟨rfl, hq5⟩
  rotate_left
  · replace hv := fnN hv (by decide)
    refine lv_if_ne (tgt := 26) hx hb dX10_put_20 (by decide) (fun q15 => ?_) (fun q15 => ?_)
    · exact absurd rfl q15
    refine lv_bipush (v := (-3)) hx hb dX10_put_23 (by decide) ?_
    exact ret ((-3)) _ _ _ _ _ _ _ dX10_put_25 hH ⟨⟨oI, oR, sm⟩, rfl, rfl, (Rg_w (Rg_c (x := (-3)) (a := (-3)) (b := (-3)) (by decide)) (by decide)), (by intro th mth kth; rw [hU th mth b1 mb1 (kth.trans kb1.symm) (by rw [kth]; rfl)]; rw [putF_out ⟨hq2.1, hq2.2.2⟩ (by have h9 := hq5; rw [show Int32.toInt 0 = 0 by decide, show Int32.toInt 2 = 2 by decide] at h9; exact h9)]), (hT.symm.trans hv)⟩
  replace hv := fnP hv rfl
  have l6 := hq5.1
  have r7 : Rg x2 (0) (2147483647) := Rg_lle (Rg_any x2) l6 (Rg_c (x := 0) (a := (0)) (b := (0)) (by decide)) (by decide)
  have l8 := hq5.2
  have r9 : Rg x2 (0) (2) := Rg_ule r7 l8 (Rg_c (x := 2) (a := (2)) (b := (2)) (by decide)) (by decide)
  refine lv_if_ne (tgt := 26) hx hb dX10_put_20 (by decide) (fun q10 => ?_) (fun q10 => ?_)
  rotate_left
  · exact absurd q10 (by decide)
  refine lv_aload_n hx hb dX10_put_26 rfl (lv_at hl 0 rfl) ?_
  refine gf_10_6 vb1 hx hb hts hown hH m0 k0 rfl kf_X10_57 dX10_put_27 ?_
  obtain ⟨b11, mb11, vb11, kb11⟩ := rf_8_1 oR mb1 kb1
  replace hv := fnR hv vb11
  refine gf_8_1 vb11 hx hb hts hown hH mb1 kb1 rfl kf_X10_225 dX10_put_30 ?_
  refine lv_iload_n hx hb dX10_put_33 rfl (lv_at hl 1 rfl) ?_
  refine lv_iconst (v := 3) hx hb dX10_put_34 (by decide) ?_
  refine lv_imul hx hb dX10_put_35 ?_
  refine lv_topi (fun y12 ey12 => ?_)
  replace hv := fnS hv ey12
  obtain ⟨ty12, ry12⟩ := Rg_mulx (a' := (0)) (b' := (57)) (rfl : x1.toInt = _) (by decide : Int32.toInt 3 = 3) r3 (Rg_c (x := 3) (a := (3)) (b := (3)) (by decide)) (by decide)
  rw [← ey12] at ty12 ry12
  refine lv_iload_n hx hb dX10_put_36 rfl (lv_at hl 2 rfl) ?_
  refine lv_iadd hx hb dX10_put_37 ?_
  refine lv_topi (fun y13 ey13 => ?_)
  replace hv := fnS hv ey13
  obtain ⟨ty13, ry13⟩ := Rg_addx (a' := (0)) (b' := (59)) (rfl : y12.toInt = _) (rfl : x2.toInt = _) ry12 r9 (by decide)
  rw [← ey13] at ty13 ry13
  refine lv_lload_n hx hb dX10_put_38 rfl (lv_at hl 3 rfl) ?_
  refine st_49 hx hb hH mb11 kb11 (Rg_in ry13 (by decide)) dX10_put_39 (fun J14 H locs eJ14 hH => ?_)
  replace hv := fnS hv eJ14
  have sm : Sm C ms_X10_put (I, J, R) (I, J14, R) := by rw [eJ14]; exact sm.stJ kb11 (mC_arr (by decide) rfl)
  refine lv_iconst (v := 0) hx hb dX10_put_40 (by decide) ?_
  exact ret (0) _ _ _ _ _ _ _ dX10_put_41 hH ⟨⟨oI, oR, sm⟩, rfl, rfl, (Rg_w (Rg_c (x := 0) (a := (0)) (b := (0)) (by decide)) (by decide)), (by intro th mth kth; rw [hU th mth b1 mb1 (kth.trans kb1.symm) (by rw [kth]; rfl)]; rw [putF_ok ⟨hq2.1, hq2.2.2⟩ r9]), (hT.symm.trans hv)⟩
noncomputable def F_X10_field (a0 : Nat) (x1 : Int32) (x2 : Int32) (I : hI) (J : hJ) (R : hR) : Int64 :=
  nm ((R a0 6).getD 0) fun b1 => nm (F_X8_has b1 x1 I J R) fun y2 => (if y2 = (1 : Int32) then nm (F_X10_isWithin x2 (0 : Int32) (2 : Int32)) fun y5 => (if y5 = (1 : Int32) then nm ((R b1 1).getD 0) fun b11 => nm (x1 * (3 : Int32)) fun y12 => nm (y12 + x2) fun y13 => nm (J b11 (Int32.toNatClampNeg y13)) fun w14 => w14 else (0 : Int64)) else (0 : Int64))
set_option maxHeartbeats 4000000 in
set_option maxRecDepth 100000 in
theorem c_X10_field {l : Launch} {D : va_G} {cy : Nat → ClassId} {L : List Nat} {C : Nat → Nat} {b0 : Nat} {I : hI} {J : hJ} {R : hR} {a0 : Nat} {x1 : Int32} {x2 : Int32} (oI : OkI L C I) (oR : OkR L C R) (m0 : a0 ∈ L) (k0 : C a0 = 10) : CJ l yX10_field cX10_field 3 2 D cy L C b0 [.ref a0, .int x1, .int x2] (I, J, R) (fun r v => v.1 = I ∧ v.2.1 = J ∧ v.2.2 = R ∧ F_X10_field a0 x1 x2 I J R = r) := by
  refine CJ.mk (plainFor_of_name (by decide)) (Nat.le_of_ble_eq_true rfl) ?_
  intro p e s m args below meth c ls Q hF ret hH hl
  obtain ⟨hx, hb, -, hml, hown, hts, -⟩ := hF
  have hl : lv_has ls 3 [(0, .ref a0), (1, .int x1), (2, .int x2)] := hl
  have hH : Hp D cy L C b0 s s.heap I J R s.heap [] := hH
  obtain ⟨TT0, hT⟩ : ∃ TT0, TT0 = F_X10_field a0 x1 x2 I J R := ⟨_, rfl⟩
  have hv := hT
  unfold F_X10_field at hv
  refine lv_aload_n hx hb dX10_field_0 rfl (lv_at hl 0 rfl) ?_
  obtain ⟨b1, mb1, vb1, kb1⟩ := rf_10_6 oR m0 k0
  replace hv := fnR hv vb1
  refine gf_10_6 vb1 hx hb hts hown hH m0 k0 rfl kf_X10_57 dX10_field_1 ?_
  refine lv_iload_n hx hb dX10_field_4 rfl (lv_at hl 1 rfl) ?_
  refine ca_X10_224 hx hb hml hown hts hH (c_X8_has oI oR mb1 kb1) hl.1 mb1 kb1 rfl (by decide) (Nat.le_of_ble_eq_true rfl) ⟨Nat.zero_le _, Nat.zero_le _⟩ dX10_field_5 (fun y2 I2 J2 R2 H locs hp hH => ?_)
  obtain ⟨eI2, eJ2, eR2, ry2, hp2, hf2⟩ := hp
  obtain rfl : I = I2 := eI2.symm
  obtain rfl : J = J2 := eJ2.symm
  obtain rfl : R = R2 := eR2.symm
  replace hv := fnS hv hf2.symm
  rcases hp2 with ⟨rfl, hq2⟩ | ⟨rfl, hq2⟩
  rotate_left
  · replace hv := fnN hv (by decide)
    refine lv_if_eq (tgt := 20) hx hb dX10_field_8 (by decide) (fun q16 => ?_) (fun q16 => ?_)
    rotate_left
    · exact absurd rfl q16
    refine lv_lconst (v := 0) hx hb dX10_field_20 (by decide) ?_
    exact ret (0) _ _ _ _ _ _ _ dX10_field_21 hH ⟨rfl, rfl, rfl, (hT.symm.trans hv)⟩
  replace hv := fnP hv rfl
  have r3 : Rg x1 (0) (19) := ⟨by have h9 := (Rg_any x1).1; omega, by have h9 := (Rg_any x1).2; omega⟩
  refine lv_if_eq (tgt := 20) hx hb dX10_field_8 (by decide) (fun q4 => ?_) (fun q4 => ?_)
  · exact absurd q4 (by decide)
  refine lv_iload_n hx hb dX10_field_11 rfl (lv_at hl 2 rfl) ?_
  refine lv_iconst (v := 0) hx hb dX10_field_12 (by decide) ?_
  refine lv_iconst (v := 2) hx hb dX10_field_13 (by decide) ?_
  refine ca_X10_82 hx hb hml hown hts hH (c_X10_isWithin ) hl.1 (by decide) (Nat.le_of_ble_eq_true rfl) ⟨Nat.zero_le _, Nat.zero_le _⟩ dX10_field_14 (fun y5 I5 J5 R5 H locs hp hH => ?_)
  obtain ⟨eI5, eJ5, eR5, ry5, hp5, hf5⟩ := hp
  obtain rfl : I = I5 := eI5.symm
  obtain rfl : J = J5 := eJ5.symm
  obtain rfl : R = R5 := eR5.symm
  replace hv := fnS hv hf5.symm
  rcases hp5 with ⟨rfl, hq5⟩ | ⟨rfl, hq5⟩
  rotate_left
  · replace hv := fnN hv (by decide)
    refine lv_if_ne (tgt := 22) hx hb dX10_field_17 (by decide) (fun q15 => ?_) (fun q15 => ?_)
    · exact absurd rfl q15
    refine lv_lconst (v := 0) hx hb dX10_field_20 (by decide) ?_
    exact ret (0) _ _ _ _ _ _ _ dX10_field_21 hH ⟨rfl, rfl, rfl, (hT.symm.trans hv)⟩
  replace hv := fnP hv rfl
  have l6 := hq5.1
  have r7 : Rg x2 (0) (2147483647) := Rg_lle (Rg_any x2) l6 (Rg_c (x := 0) (a := (0)) (b := (0)) (by decide)) (by decide)
  have l8 := hq5.2
  have r9 : Rg x2 (0) (2) := Rg_ule r7 l8 (Rg_c (x := 2) (a := (2)) (b := (2)) (by decide)) (by decide)
  refine lv_if_ne (tgt := 22) hx hb dX10_field_17 (by decide) (fun q10 => ?_) (fun q10 => ?_)
  rotate_left
  · exact absurd q10 (by decide)
  refine lv_aload_n hx hb dX10_field_22 rfl (lv_at hl 0 rfl) ?_
  refine gf_10_6 vb1 hx hb hts hown hH m0 k0 rfl kf_X10_57 dX10_field_23 ?_
  obtain ⟨b11, mb11, vb11, kb11⟩ := rf_8_1 oR mb1 kb1
  replace hv := fnR hv vb11
  refine gf_8_1 vb11 hx hb hts hown hH mb1 kb1 rfl kf_X10_225 dX10_field_26 ?_
  refine lv_iload_n hx hb dX10_field_29 rfl (lv_at hl 1 rfl) ?_
  refine lv_iconst (v := 3) hx hb dX10_field_30 (by decide) ?_
  refine lv_imul hx hb dX10_field_31 ?_
  refine lv_topi (fun y12 ey12 => ?_)
  replace hv := fnS hv ey12
  obtain ⟨ty12, ry12⟩ := Rg_mulx (a' := (0)) (b' := (57)) (rfl : x1.toInt = _) (by decide : Int32.toInt 3 = 3) r3 (Rg_c (x := 3) (a := (3)) (b := (3)) (by decide)) (by decide)
  rw [← ey12] at ty12 ry12
  refine lv_iload_n hx hb dX10_field_32 rfl (lv_at hl 2 rfl) ?_
  refine lv_iadd hx hb dX10_field_33 ?_
  refine lv_topi (fun y13 ey13 => ?_)
  replace hv := fnS hv ey13
  obtain ⟨ty13, ry13⟩ := Rg_addx (a' := (0)) (b' := (59)) (rfl : y12.toInt = _) (rfl : x2.toInt = _) ry12 r9 (by decide)
  rw [← ey13] at ty13 ry13
  refine ld_49 hx hb hH mb11 kb11 (Rg_in ry13 (by decide)) dX10_field_34 ?_
  refine lv_topl (fun w14 ew14 => ?_)
  replace hv := fnS hv ew14
  exact ret (w14) _ _ _ _ _ _ _ dX10_field_35 hH ⟨rfl, rfl, rfl, (hT.symm.trans hv)⟩
noncomputable def F_X10_hand (a0 : Nat) (x1 : Int32) (x2 : Int64) (I : hI) (J : hJ) (R : hR) : Int32 × hU :=
  nm (F_X10_isWithin x1 (0 : Int32) (3 : Int32)) fun y1 => (if y1 = (1 : Int32) then nm ((R a0 8).getD 0) fun b7 => nm ((R b7 4).getD 0) fun b8 => nm (u2 J b8 (Int32.toNatClampNeg x1) x2) fun J9 => ((0 : Int32), (I, J9, R)) else ((-3 : Int32), (I, J, R)))
def ms_X10_hand : List Nat := [3200]
set_option maxHeartbeats 4000000 in
set_option maxRecDepth 100000 in
theorem c_X10_hand {l : Launch} {D : va_G} {cy : Nat → ClassId} {L : List Nat} {C : Nat → Nat} {b0 : Nat} {I : hI} {J : hJ} {R : hR} {a0 : Nat} {x1 : Int32} {x2 : Int64} (oI : OkI L C I) (oR : OkR L C R) (m0 : a0 ∈ L) (k0 : C a0 = 10) : CI l yX10_hand cX10_hand 4 .int 1 D cy L C b0 [.ref a0, .int x1, .long x2] (I, J, R) (fun r v => Ps L C ms_X10_hand (I, J, R) v ∧ v.1 = I ∧ v.2.2 = R ∧ Rg r (-3) (0) ∧ ((r = 0 ∧ 0 ≤ x1.toInt ∧ x1.toInt ≤ 3) ∨ (r = (-3) ∧ ¬ (0 ≤ x1.toInt ∧ x1.toInt ≤ 3))) ∧ F_X10_hand a0 x1 x2 I J R = (r, v)) := by
  refine CI.mkI (plainFor_of_name (by decide)) (Nat.le_of_ble_eq_true rfl) ?_
  intro p e s m args below meth c ls Q hF ret hH hl
  obtain ⟨hx, hb, -, hml, hown, hts, -⟩ := hF
  have hl : lv_has ls 4 [(0, .ref a0), (1, .int x1), (2, .long x2)] := hl
  have hH : Hp D cy L C b0 s s.heap I J R s.heap [] := hH
  have sm : Sm C ms_X10_hand (I, J, R) (I, J, R) := Sm.rf
  obtain ⟨TT0, hT⟩ : ∃ TT0, TT0 = F_X10_hand a0 x1 x2 I J R := ⟨_, rfl⟩
  have hv := hT
  unfold F_X10_hand at hv
  refine lv_iload_n hx hb dX10_hand_0 rfl (lv_at hl 1 rfl) ?_
  refine lv_iconst (v := 0) hx hb dX10_hand_1 (by decide) ?_
  refine lv_iconst (v := 3) hx hb dX10_hand_2 (by decide) ?_
  refine ca_X10_82 hx hb hml hown hts hH (c_X10_isWithin ) hl.1 (by decide) (Nat.le_of_ble_eq_true rfl) ⟨Nat.zero_le _, Nat.zero_le _⟩ dX10_hand_3 (fun y1 I1 J1 R1 H locs hp hH => ?_)
  obtain ⟨eI1, eJ1, eR1, ry1, hp1, hf1⟩ := hp
  obtain rfl : I = I1 := eI1.symm
  obtain rfl : J = J1 := eJ1.symm
  obtain rfl : R = R1 := eR1.symm
  replace hv := fnS hv hf1.symm
  rcases hp1 with ⟨rfl, hq1⟩ | ⟨rfl, hq1⟩
  rotate_left
  · replace hv := fnN hv (by decide)
    refine lv_if_ne (tgt := 12) hx hb dX10_hand_6 (by decide) (fun q10 => ?_) (fun q10 => ?_)
    · exact absurd rfl q10
    refine lv_bipush (v := (-3)) hx hb dX10_hand_9 (by decide) ?_
    exact ret ((-3)) _ _ _ _ _ _ _ dX10_hand_11 hH ⟨⟨oI, oR, sm⟩, rfl, rfl, (Rg_w (Rg_c (x := (-3)) (a := (-3)) (b := (-3)) (by decide)) (by decide)), (by have c0 : Int32.toInt 0 = 0 := (by decide); have c3 : Int32.toInt 3 = 3 := (by decide); exact Or.inr ⟨rfl, by omega⟩), (hT.symm.trans hv)⟩
  replace hv := fnP hv rfl
  have l2 := hq1.1
  have r3 : Rg x1 (0) (2147483647) := Rg_lle (Rg_any x1) l2 (Rg_c (x := 0) (a := (0)) (b := (0)) (by decide)) (by decide)
  have l4 := hq1.2
  have r5 : Rg x1 (0) (3) := Rg_ule r3 l4 (Rg_c (x := 3) (a := (3)) (b := (3)) (by decide)) (by decide)
  refine lv_if_ne (tgt := 12) hx hb dX10_hand_6 (by decide) (fun q6 => ?_) (fun q6 => ?_)
  rotate_left
  · exact absurd q6 (by decide)
  refine lv_aload_n hx hb dX10_hand_12 rfl (lv_at hl 0 rfl) ?_
  obtain ⟨b7, mb7, vb7, kb7⟩ := rf_10_8 oR m0 k0
  replace hv := fnR hv vb7
  refine gf_10_8 vb7 hx hb hts hown hH m0 k0 rfl kf_X10_73 dX10_hand_13 ?_
  obtain ⟨b8, mb8, vb8, kb8⟩ := rf_1_4 oR mb7 kb7
  replace hv := fnR hv vb8
  refine gf_1_4 vb8 hx hb hts hown hH mb7 kb7 rfl kf_X10_228 dX10_hand_16 ?_
  refine lv_iload_n hx hb dX10_hand_19 rfl (lv_at hl 1 rfl) ?_
  refine lv_lload_n hx hb dX10_hand_20 rfl (lv_at hl 2 rfl) ?_
  refine st_50 hx hb hH mb8 kb8 (Rg_in r5 (by decide)) dX10_hand_21 (fun J9 H locs eJ9 hH => ?_)
  replace hv := fnS hv eJ9
  have sm : Sm C ms_X10_hand (I, J, R) (I, J9, R) := by rw [eJ9]; exact sm.stJ kb8 (mC_arr (by decide) rfl)
  refine lv_iconst (v := 0) hx hb dX10_hand_22 (by decide) ?_
  exact ret (0) _ _ _ _ _ _ _ dX10_hand_23 hH ⟨⟨oI, oR, sm⟩, rfl, rfl, (Rg_w (Rg_c (x := 0) (a := (0)) (b := (0)) (by decide)) (by decide)), (by exact Or.inl ⟨rfl, r5⟩), (hT.symm.trans hv)⟩
noncomputable def B_X10_membersOf_5 (a0 : Nat) (x1 : Int32) (x2 : Int32) (k_5 : hI → hJ → hR → Int32 → Int32 → (Int32)) (I : hI) (J : hJ) (R : hR) (x3_5 : Int32) (x4_5 : Int32) : Int32 :=
  (if x2 ≤ x4_5 then x3_5 else nm ((R a0 4).getD 0) fun b6 => nm ((R b6 (Int32.toNatClampNeg x4_5)).getD 0) fun b7 => nm (I b7 1) fun y8 => nm (x3_5 + y8) fun y9 => nm (x4_5 + (1 : Int32)) fun y10 => k_5 I J R y9 y10)
noncomputable def F_X10_membersOf_5 (a0 : Nat) (x1 : Int32) (x2 : Int32) : Nat → hI → hJ → hR → Int32 → Int32 → (Int32) := fun n => Nat.rec (motive := fun _ => hI → hJ → hR → Int32 → Int32 → (Int32)) (fun _ _ _ _ _ => default) (fun _ k => B_X10_membersOf_5 a0 x1 x2 k) n
theorem F_X10_membersOf_5_s {a0 : Nat} {x1 : Int32} {x2 : Int32} {n : Nat} {I : hI} {J : hJ} {R : hR} {x3_5 : Int32} {x4_5 : Int32} : F_X10_membersOf_5 a0 x1 x2 (n + 1)  I J R x3_5 x4_5 = B_X10_membersOf_5 a0 x1 x2 (F_X10_membersOf_5 a0 x1 x2 n)  I J R x3_5 x4_5 := rfl
noncomputable def F_X10_membersOf (a0 : Nat) (x1 : Int32) (x2 : Int32) (I : hI) (J : hJ) (R : hR) : Int32 :=
  F_X10_membersOf_5 a0 x1 x2 ((20 - x1.toInt).toNat + 1) I J R (0 : Int32) x1
set_option maxHeartbeats 4000000 in
set_option maxRecDepth 100000 in
theorem c_X10_membersOf {l : Launch} {D : va_G} {cy : Nat → ClassId} {L : List Nat} {C : Nat → Nat} {b0 : Nat} {I : hI} {J : hJ} {R : hR} {a0 : Nat} {x1 : Int32} {x2 : Int32} (oI : OkI L C I) (oR : OkR L C R) (m0 : a0 ∈ L) (k0 : C a0 = 10) (h1 : Rg x1 (0) (20)) (h2 : Rg x2 (0) (20)) : CI l yX10_membersOf cX10_membersOf 5 .int 0 D cy L C b0 [.ref a0, .int x1, .int x2] (I, J, R) (fun r v => v.1 = I ∧ v.2.1 = J ∧ v.2.2 = R ∧ F_X10_membersOf a0 x1 x2 I J R = r) := by
  refine CI.mkI (plainFor_of_name (by decide)) (Nat.le_of_ble_eq_true rfl) ?_
  intro p e s m args below meth c ls Q hF ret hH hl
  obtain ⟨hx, hb, -, hml, hown, hts, -⟩ := hF
  have hl : lv_has ls 5 [(0, .ref a0), (1, .int x1), (2, .int x2)] := hl
  have hH : Hp D cy L C b0 s s.heap I J R s.heap [] := hH
  obtain ⟨TT0, hT⟩ : ∃ TT0, TT0 = F_X10_membersOf a0 x1 x2 I J R := ⟨_, rfl⟩
  have hv := hT
  unfold F_X10_membersOf at hv
  refine lv_iconst (v := 0) hx hb dX10_membersOf_0 (by decide) ?_
  refine lv_istore_n (lv' := [(3, .int 0), (0, .ref a0), (1, .int x1), (2, .int x2)]) hx hb dX10_membersOf_1 rfl hl (by decide) rfl (fun ls hl => ?_)
  refine lv_iload_n hx hb dX10_membersOf_2 rfl (lv_at hl 2 rfl) ?_
  refine lv_istore (lv' := [(4, .int x1), (3, .int 0), (0, .ref a0), (1, .int x1), (2, .int x2)]) hx hb dX10_membersOf_3 hl (by decide) rfl (fun ls hl => ?_)
  have L_5 : ∀ (n_5 : Nat) (H : Heap) (locs : List Loc) (ls : Array Slot) (x3_5 : Int32) (x4_5 : Int32), (20 - x4_5.toInt).toNat < n_5 → Hp D cy L C b0 s s.heap I J R H locs → TT0 = F_X10_membersOf_5 a0 x1 x2 n_5 I J R x3_5 x4_5 → Rg x2 (0) (20) → Rg x4_5 (0) (20) → lv_has ls 5 [(0, .ref a0), (2, .int x2), (3, .int x3_5), (4, .int x4_5)] → W p l e (rmD 0) s m args below meth c H locs 0 0 Q (F0 m 5 ls []) := by
    intro n_5
    induction n_5 with
    | zero => intro H locs ls x3_5 x4_5 h; exact absurd h (Nat.not_lt_zero _)
    | succ n_5 ih_5 =>
      intro H locs ls x3_5 x4_5 hn_5 hH hv r2_5 r4_5 hl
      replace hv := hv.trans F_X10_membersOf_5_s
      unfold B_X10_membersOf_5 at hv
      refine lv_iload hx hb dX10_membersOf_5 (lv_at hl 3 rfl) ?_
      refine lv_iload_n hx hb dX10_membersOf_7 rfl (lv_at hl 1 rfl) ?_
      refine lv_icmp_ge (tgt := 30) hx hb dX10_membersOf_8 (by decide) (fun q1 => ?_) (fun q1 => ?_)
      · replace hv := fnP hv q1
        have l2 := Rg_le q1
        refine lv_iload_n hx hb dX10_membersOf_30 rfl (lv_at hl 2 rfl) ?_
        exact ret (x3_5) _ _ _ _ _ _ _ dX10_membersOf_31 hH ⟨rfl, rfl, rfl, (hT.symm.trans hv)⟩
      replace hv := fnN hv q1
      have l3 := Rg_nle q1
      have r4 : Rg x4_5 (0) (19) := Rg_ult r4_5 (Rg_nle q1) r2_5 (by decide)
      have r5 : Rg x2 (1) (20) := Rg_llt r2_5 (Rg_nle q1) r4_5 (by decide)
      refine lv_iload_n hx hb dX10_membersOf_11 rfl (lv_at hl 2 rfl) ?_
      refine lv_aload_n hx hb dX10_membersOf_12 rfl (lv_at hl 0 rfl) ?_
      obtain ⟨b6, mb6, vb6, kb6⟩ := rf_10_4 oR m0 k0
      replace hv := fnR hv vb6
      refine gf_10_4 vb6 hx hb hts hown hH m0 k0 rfl kf_X10_41 dX10_membersOf_13 ?_
      refine lv_iload hx hb dX10_membersOf_16 (lv_at hl 3 rfl) ?_
      obtain ⟨b7, mb7, vb7, kb7⟩ := rr_57 oR mb6 kb6 (Rg_in r4 (by decide))
      replace hv := fnR hv vb7
      refine ld_57 hx hb hH mb6 kb6 (Rg_in r4 (by decide)) vb7 dX10_membersOf_18 ?_
      refine gf_7_1 hx hb hts hown hH mb7 kb7 rfl kf_X10_142 dX10_membersOf_19 ?_
      refine lv_topi (fun y8 ey8 => ?_)
      have ry8 : Rg y8 (0) (6) := by rw [ey8]; exact rf_7_1 oI mb7 kb7
      replace hv := fnS hv ey8
      refine lv_iadd hx hb dX10_membersOf_22 ?_
      refine lv_topi (fun y9 ey9 => ?_)
      replace hv := fnS hv ey9
      refine lv_istore_n (lv' := [(3, .int y9), (0, .ref a0), (2, .int x2), (4, .int x4_5)]) hx hb dX10_membersOf_23 rfl hl (by decide) rfl (fun ls hl => ?_)
      obtain ⟨y10, ey10⟩ : ∃ y : Int32, y = x4_5 + 1 := ⟨_, rfl⟩
      replace hv := fnS hv ey10
      obtain ⟨ty10, ry10⟩ := Rg_addx (a' := (1)) (b' := (20)) (rfl : x4_5.toInt = _) (by decide : Int32.toInt 1 = 1) r4 (Rg_c (x := 1) (a := (1)) (b := (1)) (by decide)) (by decide)
      rw [← ey10] at ty10 ry10
      refine lv_iinc (v := y10) (lv' := [(4, .int y10), (3, .int y9), (0, .ref a0), (2, .int x2)]) hx hb dX10_membersOf_24 hl (k := 3) rfl (by rw [ey10]; rfl) (by decide) rfl (fun ls hl => ?_)
      refine lv_goto (tgt := 5) hx hb dX10_membersOf_27 (by decide) ?_
      exact ih_5 _ _ _ y9 y10 (lp_up hn_5 ty10 (Rg_ltc r4 (by decide))) hH hv (Rg_w r5 (by decide)) (Rg_w ry10 (by decide)) (lv_sub hl [2, 3, 1, 0] rfl)
  exact L_5 ((20 - x1.toInt).toNat + 1) _ _ _ 0 x1 (Nat.lt_succ_self _) hH hv h2 h1 (lv_sub hl [2, 4, 1, 0] rfl)
noncomputable def F_X10_count (a0 : Nat) (x1 : Int32) (I : hI) (J : hJ) (R : hR) : Int32 :=
  (if Int32.toInt x1 = 0 then nm ((R a0 0).getD 0) fun b3 => nm (I b3 7) fun y4 => y4 else (if Int32.toInt x1 = 1 then nm ((R a0 6).getD 0) fun b6 => nm (I b6 2) fun y7 => y7 else (if Int32.toInt x1 = 2 then nm ((R a0 1).getD 0) fun b9 => nm (I b9 1) fun y10 => y10 else (if Int32.toInt x1 = 3 then nm ((R a0 2).getD 0) fun b12 => nm (F_X2_held b12 I J R) fun y13 => y13 else (if Int32.toInt x1 = 4 then nm (F_X10_membersOf a0 (10 : Int32) (20 : Int32) I J R) fun y15 => y15 else (if Int32.toInt x1 = 5 then nm (F_X10_membersOf a0 (0 : Int32) (10 : Int32) I J R) fun y17 => y17 else (if Int32.toInt x1 = 6 then nm ((R a0 7).getD 0) fun b19 => nm (I b19 3) fun y20 => y20 else (if Int32.toInt x1 = 7 then nm ((R a0 7).getD 0) fun b22 => nm (I b22 4) fun y23 => y23 else (-3 : Int32)))))))))
set_option maxHeartbeats 4000000 in
set_option maxRecDepth 100000 in
theorem c_X10_count {l : Launch} {D : va_G} {cy : Nat → ClassId} {L : List Nat} {C : Nat → Nat} {b0 : Nat} {I : hI} {J : hJ} {R : hR} {a0 : Nat} {x1 : Int32} (oI : OkI L C I) (oR : OkR L C R) (m0 : a0 ∈ L) (k0 : C a0 = 10) : CI l yX10_count cX10_count 2 .int 1 D cy L C b0 [.ref a0, .int x1] (I, J, R) (fun r v => v.1 = I ∧ v.2.1 = J ∧ v.2.2 = R ∧ F_X10_count a0 x1 I J R = r) := by
  refine CI.mkI (plainFor_of_name (by decide)) (Nat.le_of_ble_eq_true rfl) ?_
  intro p e s m args below meth c ls Q hF ret hH hl
  obtain ⟨hx, hb, -, hml, hown, hts, -⟩ := hF
  have hl : lv_has ls 2 [(0, .ref a0), (1, .int x1)] := hl
  have hH : Hp D cy L C b0 s s.heap I J R s.heap [] := hH
  obtain ⟨TT0, hT⟩ : ∃ TT0, TT0 = F_X10_count a0 x1 I J R := ⟨_, rfl⟩
  have hv := hT
  unfold F_X10_count at hv
  refine lv_iload_n hx hb dX10_count_0 rfl (lv_at hl 1 rfl) ?_
  rcases (show (x1.toInt < 0 ∨ 7 < x1.toInt) ∨ x1.toInt = 0 ∨ x1.toInt = 1 ∨ x1.toInt = 2 ∨ x1.toInt = 3 ∨ x1.toInt = 4 ∨ x1.toInt = 5 ∨ x1.toInt = 6 ∨ x1.toInt = 7 by have z11 := (Rg_any x1).1; have z12 := (Rg_any x1).2; omega) with z1 | z1 | z1 | z1 | z1 | z1 | z1 | z1 | z1
  · refine lv_tableOut (tgt := 113) hx hb dX10_count_1 z1 (by decide) ?_
    replace hv := fnN hv (by omega)
    replace hv := fnN hv (by omega)
    replace hv := fnN hv (by omega)
    replace hv := fnN hv (by omega)
    replace hv := fnN hv (by omega)
    replace hv := fnN hv (by omega)
    replace hv := fnN hv (by omega)
    replace hv := fnN hv (by omega)
    refine lv_bipush (v := (-3)) hx hb dX10_count_113 (by decide) ?_
    exact ret ((-3)) _ _ _ _ _ _ _ dX10_count_115 hH ⟨rfl, rfl, rfl, (hT.symm.trans hv)⟩
  · have r2 : Rg x1 (0) (0) := ⟨by rw [z1]; decide, by rw [z1]; decide⟩
    refine lv_tableIn (tgt := 48) hx hb dX10_count_1 (by rw [z1]; decide) (by rw [z1]; decide) (by rw [z1]; rfl) (by decide) ?_
    replace hv := fnP hv z1
    refine lv_aload_n hx hb dX10_count_48 rfl (lv_at hl 0 rfl) ?_
    obtain ⟨b3, mb3, vb3, kb3⟩ := rf_10_0 oR m0 k0
    replace hv := fnR hv vb3
    refine gf_10_0 vb3 hx hb hts hown hH m0 k0 rfl kf_X10_12 dX10_count_49 ?_
    refine gf_6_7 hx hb hts hown hH mb3 kb3 rfl kf_X10_248 dX10_count_52 ?_
    refine lv_topi (fun y4 ey4 => ?_)
    replace hv := fnS hv ey4
    exact ret (y4) _ _ _ _ _ _ _ dX10_count_55 hH ⟨rfl, rfl, rfl, (hT.symm.trans hv)⟩
  · have r5 : Rg x1 (1) (1) := ⟨by rw [z1]; decide, by rw [z1]; decide⟩
    refine lv_tableIn (tgt := 56) hx hb dX10_count_1 (by rw [z1]; decide) (by rw [z1]; decide) (by rw [z1]; rfl) (by decide) ?_
    replace hv := fnN hv (by omega)
    replace hv := fnP hv z1
    refine lv_aload_n hx hb dX10_count_56 rfl (lv_at hl 0 rfl) ?_
    obtain ⟨b6, mb6, vb6, kb6⟩ := rf_10_6 oR m0 k0
    replace hv := fnR hv vb6
    refine gf_10_6 vb6 hx hb hts hown hH m0 k0 rfl kf_X10_57 dX10_count_57 ?_
    refine gf_8_2 hx hb hts hown hH mb6 kb6 rfl kf_X10_220 dX10_count_60 ?_
    refine lv_topi (fun y7 ey7 => ?_)
    have ry7 : Rg y7 (0) (20) := by rw [ey7]; exact rf_8_2 oI mb6 kb6
    replace hv := fnS hv ey7
    exact ret (y7) _ _ _ _ _ _ _ dX10_count_63 hH ⟨rfl, rfl, rfl, (hT.symm.trans hv)⟩
  · have r8 : Rg x1 (2) (2) := ⟨by rw [z1]; decide, by rw [z1]; decide⟩
    refine lv_tableIn (tgt := 64) hx hb dX10_count_1 (by rw [z1]; decide) (by rw [z1]; decide) (by rw [z1]; rfl) (by decide) ?_
    replace hv := fnN hv (by omega)
    replace hv := fnN hv (by omega)
    replace hv := fnP hv z1
    refine lv_aload_n hx hb dX10_count_64 rfl (lv_at hl 0 rfl) ?_
    obtain ⟨b9, mb9, vb9, kb9⟩ := rf_10_1 oR m0 k0
    replace hv := fnR hv vb9
    refine gf_10_1 vb9 hx hb hts hown hH m0 k0 rfl kf_X10_19 dX10_count_65 ?_
    refine gf_0_1 hx hb hts hown hH mb9 kb9 rfl kf_X10_251 dX10_count_68 ?_
    refine lv_topi (fun y10 ey10 => ?_)
    have ry10 : Rg y10 (0) (30) := by rw [ey10]; exact rf_0_1 oI mb9 kb9
    replace hv := fnS hv ey10
    exact ret (y10) _ _ _ _ _ _ _ dX10_count_71 hH ⟨rfl, rfl, rfl, (hT.symm.trans hv)⟩
  · have r11 : Rg x1 (3) (3) := ⟨by rw [z1]; decide, by rw [z1]; decide⟩
    refine lv_tableIn (tgt := 72) hx hb dX10_count_1 (by rw [z1]; decide) (by rw [z1]; decide) (by rw [z1]; rfl) (by decide) ?_
    replace hv := fnN hv (by omega)
    replace hv := fnN hv (by omega)
    replace hv := fnN hv (by omega)
    replace hv := fnP hv z1
    refine lv_aload_n hx hb dX10_count_72 rfl (lv_at hl 0 rfl) ?_
    obtain ⟨b12, mb12, vb12, kb12⟩ := rf_10_2 oR m0 k0
    replace hv := fnR hv vb12
    refine gf_10_2 vb12 hx hb hts hown hH m0 k0 rfl kf_X10_26 dX10_count_73 ?_
    refine ca_X10_252 hx hb hml hown hts hH (c_X2_held oI oR mb12 kb12) hl.1 mb12 kb12 rfl (by decide) (Nat.le_of_ble_eq_true rfl) ⟨Nat.zero_le _, Nat.zero_le _⟩ dX10_count_76 (fun y13 I13 J13 R13 H locs hp hH => ?_)
    obtain ⟨eI13, eJ13, eR13, hf13⟩ := hp
    obtain rfl : I = I13 := eI13.symm
    obtain rfl : J = J13 := eJ13.symm
    obtain rfl : R = R13 := eR13.symm
    replace hv := fnS hv hf13.symm
    exact ret (y13) _ _ _ _ _ _ _ dX10_count_79 hH ⟨rfl, rfl, rfl, (hT.symm.trans hv)⟩
  · have r14 : Rg x1 (4) (4) := ⟨by rw [z1]; decide, by rw [z1]; decide⟩
    refine lv_tableIn (tgt := 80) hx hb dX10_count_1 (by rw [z1]; decide) (by rw [z1]; decide) (by rw [z1]; rfl) (by decide) ?_
    replace hv := fnN hv (by omega)
    replace hv := fnN hv (by omega)
    replace hv := fnN hv (by omega)
    replace hv := fnN hv (by omega)
    replace hv := fnP hv z1
    refine lv_aload_n hx hb dX10_count_80 rfl (lv_at hl 0 rfl) ?_
    refine lv_bipush (v := 10) hx hb dX10_count_81 (by decide) ?_
    refine lv_bipush (v := 20) hx hb dX10_count_83 (by decide) ?_
    refine ca_X10_255 hx hb hml hown hts hH (c_X10_membersOf oI oR m0 k0 (Rg_w (Rg_c (x := 10) (a := (10)) (b := (10)) (by decide)) (by decide)) (Rg_w (Rg_c (x := 20) (a := (20)) (b := (20)) (by decide)) (by decide))) hl.1 m0 k0 rfl (by decide) (Nat.le_of_ble_eq_true rfl) ⟨Nat.zero_le _, Nat.zero_le _⟩ dX10_count_85 (fun y15 I15 J15 R15 H locs hp hH => ?_)
    obtain ⟨eI15, eJ15, eR15, hf15⟩ := hp
    obtain rfl : I = I15 := eI15.symm
    obtain rfl : J = J15 := eJ15.symm
    obtain rfl : R = R15 := eR15.symm
    replace hv := fnS hv hf15.symm
    exact ret (y15) _ _ _ _ _ _ _ dX10_count_88 hH ⟨rfl, rfl, rfl, (hT.symm.trans hv)⟩
  · have r16 : Rg x1 (5) (5) := ⟨by rw [z1]; decide, by rw [z1]; decide⟩
    refine lv_tableIn (tgt := 89) hx hb dX10_count_1 (by rw [z1]; decide) (by rw [z1]; decide) (by rw [z1]; rfl) (by decide) ?_
    replace hv := fnN hv (by omega)
    replace hv := fnN hv (by omega)
    replace hv := fnN hv (by omega)
    replace hv := fnN hv (by omega)
    replace hv := fnN hv (by omega)
    replace hv := fnP hv z1
    refine lv_aload_n hx hb dX10_count_89 rfl (lv_at hl 0 rfl) ?_
    refine lv_iconst (v := 0) hx hb dX10_count_90 (by decide) ?_
    refine lv_bipush (v := 10) hx hb dX10_count_91 (by decide) ?_
    refine ca_X10_255 hx hb hml hown hts hH (c_X10_membersOf oI oR m0 k0 (Rg_w (Rg_c (x := 0) (a := (0)) (b := (0)) (by decide)) (by decide)) (Rg_w (Rg_c (x := 10) (a := (10)) (b := (10)) (by decide)) (by decide))) hl.1 m0 k0 rfl (by decide) (Nat.le_of_ble_eq_true rfl) ⟨Nat.zero_le _, Nat.zero_le _⟩ dX10_count_93 (fun y17 I17 J17 R17 H locs hp hH => ?_)
    obtain ⟨eI17, eJ17, eR17, hf17⟩ := hp
    obtain rfl : I = I17 := eI17.symm
    obtain rfl : J = J17 := eJ17.symm
    obtain rfl : R = R17 := eR17.symm
    replace hv := fnS hv hf17.symm
    exact ret (y17) _ _ _ _ _ _ _ dX10_count_96 hH ⟨rfl, rfl, rfl, (hT.symm.trans hv)⟩
  · have r18 : Rg x1 (6) (6) := ⟨by rw [z1]; decide, by rw [z1]; decide⟩
    refine lv_tableIn (tgt := 97) hx hb dX10_count_1 (by rw [z1]; decide) (by rw [z1]; decide) (by rw [z1]; rfl) (by decide) ?_
    replace hv := fnN hv (by omega)
    replace hv := fnN hv (by omega)
    replace hv := fnN hv (by omega)
    replace hv := fnN hv (by omega)
    replace hv := fnN hv (by omega)
    replace hv := fnN hv (by omega)
    replace hv := fnP hv z1
    refine lv_aload_n hx hb dX10_count_97 rfl (lv_at hl 0 rfl) ?_
    obtain ⟨b19, mb19, vb19, kb19⟩ := rf_10_7 oR m0 k0
    replace hv := fnR hv vb19
    refine gf_10_7 vb19 hx hb hts hown hH m0 k0 rfl kf_X10_64 dX10_count_98 ?_
    refine gf_4_3 hx hb hts hown hH mb19 kb19 rfl kf_X10_258 dX10_count_101 ?_
    refine lv_topi (fun y20 ey20 => ?_)
    replace hv := fnS hv ey20
    exact ret (y20) _ _ _ _ _ _ _ dX10_count_104 hH ⟨rfl, rfl, rfl, (hT.symm.trans hv)⟩
  · have r21 : Rg x1 (7) (7) := ⟨by rw [z1]; decide, by rw [z1]; decide⟩
    refine lv_tableIn (tgt := 105) hx hb dX10_count_1 (by rw [z1]; decide) (by rw [z1]; decide) (by rw [z1]; rfl) (by decide) ?_
    replace hv := fnN hv (by omega)
    replace hv := fnN hv (by omega)
    replace hv := fnN hv (by omega)
    replace hv := fnN hv (by omega)
    replace hv := fnN hv (by omega)
    replace hv := fnN hv (by omega)
    replace hv := fnN hv (by omega)
    replace hv := fnP hv z1
    refine lv_aload_n hx hb dX10_count_105 rfl (lv_at hl 0 rfl) ?_
    obtain ⟨b22, mb22, vb22, kb22⟩ := rf_10_7 oR m0 k0
    replace hv := fnR hv vb22
    refine gf_10_7 vb22 hx hb hts hown hH m0 k0 rfl kf_X10_64 dX10_count_106 ?_
    refine gf_4_4 hx hb hts hown hH mb22 kb22 rfl kf_X10_261 dX10_count_109 ?_
    refine lv_topi (fun y23 ey23 => ?_)
    replace hv := fnS hv ey23
    exact ret (y23) _ _ _ _ _ _ _ dX10_count_112 hH ⟨rfl, rfl, rfl, (hT.symm.trans hv)⟩
noncomputable def F_X10_value (a0 : Nat) (I : hI) (J : hJ) (R : hR) : Int64 :=
  nm ((R a0 7).getD 0) fun b1 => nm (J b1 0) fun w2 => w2
set_option maxHeartbeats 4000000 in
set_option maxRecDepth 100000 in
theorem c_X10_value {l : Launch} {D : va_G} {cy : Nat → ClassId} {L : List Nat} {C : Nat → Nat} {b0 : Nat} {I : hI} {J : hJ} {R : hR} {a0 : Nat} (oI : OkI L C I) (oR : OkR L C R) (m0 : a0 ∈ L) (k0 : C a0 = 10) : CJ l yX10_value cX10_value 1 0 D cy L C b0 [.ref a0] (I, J, R) (fun r v => v.1 = I ∧ v.2.1 = J ∧ v.2.2 = R ∧ F_X10_value a0 I J R = r) := by
  refine CJ.mk (plainFor_of_name (by decide)) (Nat.le_of_ble_eq_true rfl) ?_
  intro p e s m args below meth c ls Q hF ret hH hl
  obtain ⟨hx, hb, -, hml, hown, hts, -⟩ := hF
  have hl : lv_has ls 1 [(0, .ref a0)] := hl
  have hH : Hp D cy L C b0 s s.heap I J R s.heap [] := hH
  obtain ⟨TT0, hT⟩ : ∃ TT0, TT0 = F_X10_value a0 I J R := ⟨_, rfl⟩
  have hv := hT
  unfold F_X10_value at hv
  refine lv_aload_n hx hb dX10_value_0 rfl (lv_at hl 0 rfl) ?_
  obtain ⟨b1, mb1, vb1, kb1⟩ := rf_10_7 oR m0 k0
  replace hv := fnR hv vb1
  refine gf_10_7 vb1 hx hb hts hown hH m0 k0 rfl kf_X10_64 dX10_value_1 ?_
  refine gf_4_0 hx hb hts hown hH mb1 kb1 rfl kf_X10_135 dX10_value_4 ?_
  refine lv_topl (fun w2 ew2 => ?_)
  replace hv := fnS hv ew2
  exact ret (w2) _ _ _ _ _ _ _ dX10_value_7 hH ⟨rfl, rfl, rfl, (hT.symm.trans hv)⟩
set_option maxHeartbeats 4000000 in
set_option maxRecDepth 100000 in
theorem c_X10_failed {l : Launch} {D : va_G} {cy : Nat → ClassId} {L : List Nat} {C : Nat → Nat} {b0 : Nat} {I : hI} {J : hJ} {R : hR} {a0 : Nat} {x1 : Int32} (oI : OkI L C I) (oR : OkR L C R) (m0 : a0 ∈ L) (k0 : C a0 = 10) : CI l yX10_failed cX10_failed 2 .int 1 D cy L C b0 [.ref a0, .int x1] (I, J, R) (fun r v => v.1 = I ∧ v.2.1 = J ∧ v.2.2 = R) := by
  refine CI.mkI (plainFor_of_name (by decide)) (Nat.le_of_ble_eq_true rfl) ?_
  intro p e s m args below meth c ls Q hF ret hH hl
  obtain ⟨hx, hb, -, hml, hown, hts, -⟩ := hF
  have hl : lv_has ls 2 [(0, .ref a0), (1, .int x1)] := hl
  have hH : Hp D cy L C b0 s s.heap I J R s.heap [] := hH
  refine lv_aload_n hx hb dX10_failed_0 rfl (lv_at hl 0 rfl) ?_
  obtain ⟨b1, mb1, vb1, kb1⟩ := rf_10_7 oR m0 k0
  refine gf_10_7 vb1 hx hb hts hown hH m0 k0 rfl kf_X10_64 dX10_failed_1 ?_
  refine gf_4_1 hx hb hts hown hH mb1 kb1 rfl kf_X10_242 dX10_failed_4 ?_
  refine lv_topi (fun y2 ey2 => ?_)
  refine lv_iconst (v := (-1)) hx hb dX10_failed_7 (by decide) ?_
  refine lv_icmp_ne (tgt := 13) hx hb dX10_failed_8 (by decide) (fun q3 => ?_) (fun q3 => ?_)
  rotate_left
  · have l19 := congrArg Int32.toInt q3
    have r20 : Rg y2 (-1) (-1) := Rg_both (Rg_any y2) (Rg_eqv q3 (Rg_c (x := (-1)) (a := (-1)) (b := (-1)) (by decide))) (by decide)
    refine lv_iconst (v := (-1)) hx hb dX10_failed_11 (by decide) ?_
    exact ret ((-1)) _ _ _ _ _ _ _ dX10_failed_12 hH ⟨rfl, rfl, rfl⟩
  have l4 := Rg_ne q3
  refine lv_iload_n hx hb dX10_failed_13 rfl (lv_at hl 1 rfl) ?_
  refine lv_iconst (v := 0) hx hb dX10_failed_14 (by decide) ?_
  refine lv_iconst (v := 1) hx hb dX10_failed_15 (by decide) ?_
  refine ca_X10_82 hx hb hml hown hts hH (c_X10_isWithin ) hl.1 (by decide) (Nat.le_of_ble_eq_true rfl) ⟨Nat.zero_le _, Nat.zero_le _⟩ dX10_failed_16 (fun y5 I5 J5 R5 H locs hp hH => ?_)
  obtain ⟨eI5, eJ5, eR5, ry5, hp5, hf5⟩ := hp
  obtain rfl : I = I5 := eI5.symm
  obtain rfl : J = J5 := eJ5.symm
  obtain rfl : R = R5 := eR5.symm
  rcases hp5 with ⟨rfl, hq5⟩ | ⟨rfl, hq5⟩
  rotate_left
  · refine lv_if_ne (tgt := 25) hx hb dX10_failed_19 (by decide) (fun q18 => ?_) (fun q18 => ?_)
    · exact absurd rfl q18
    refine lv_bipush (v := (-3)) hx hb dX10_failed_22 (by decide) ?_
    exact ret ((-3)) _ _ _ _ _ _ _ dX10_failed_24 hH ⟨rfl, rfl, rfl⟩
  have l6 := hq5.1
  have r7 : Rg x1 (0) (2147483647) := Rg_lle (Rg_any x1) l6 (Rg_c (x := 0) (a := (0)) (b := (0)) (by decide)) (by decide)
  have l8 := hq5.2
  have r9 : Rg x1 (0) (1) := Rg_ule r7 l8 (Rg_c (x := 1) (a := (1)) (b := (1)) (by decide)) (by decide)
  refine lv_if_ne (tgt := 25) hx hb dX10_failed_19 (by decide) (fun q10 => ?_) (fun q10 => ?_)
  rotate_left
  · exact absurd q10 (by decide)
  refine lv_iload_n hx hb dX10_failed_25 rfl (lv_at hl 1 rfl) ?_
  refine lv_if_ne (tgt := 39) hx hb dX10_failed_26 (by decide) (fun q11 => ?_) (fun q11 => ?_)
  · have l12 := Rg_ne q11
    have r13 : Rg x1 (1) (1) := Rg_nelo r9 (Rg_ne q11) (Rg_c (x := 0) (a := (0)) (b := (0)) (by decide)) (by decide)
    refine lv_aload_n hx hb dX10_failed_39 rfl (lv_at hl 0 rfl) ?_
    refine gf_10_7 vb1 hx hb hts hown hH m0 k0 rfl kf_X10_64 dX10_failed_40 ?_
    refine gf_4_2 hx hb hts hown hH mb1 kb1 rfl kf_X10_245 dX10_failed_43 ?_
    refine lv_topi (fun y14 ey14 => ?_)
    exact ret (y14) _ _ _ _ _ _ _ dX10_failed_46 hH ⟨rfl, rfl, rfl⟩
  have l15 := congrArg Int32.toInt q11
  have r16 : Rg x1 (0) (0) := Rg_both r9 (Rg_eqv q11 (Rg_c (x := 0) (a := (0)) (b := (0)) (by decide))) (by decide)
  refine lv_aload_n hx hb dX10_failed_29 rfl (lv_at hl 0 rfl) ?_
  refine gf_10_7 vb1 hx hb hts hown hH m0 k0 rfl kf_X10_64 dX10_failed_30 ?_
  refine gf_4_1 hx hb hts hown hH mb1 kb1 rfl kf_X10_242 dX10_failed_33 ?_
  refine lv_topi (fun y17 ey17 => ?_)
  obtain rfl : y2 = y17 := ey2.trans ey17.symm
  refine lv_goto (tgt := 46) hx hb dX10_failed_36 (by decide) ?_
  exact ret (y2) _ _ _ _ _ _ _ dX10_failed_46 hH ⟨rfl, rfl, rfl⟩
noncomputable def F_X10_finish (a0 : Nat) (x1 : Int32) (I : hI) (J : hJ) (R : hR) : Int32 × hU :=
  nm ((R a0 8).getD 0) fun b1 => nm ((R a0 4).getD 0) fun b2 => nm ((R a0 6).getD 0) fun b3 => nm ((R b3 0).getD 0) fun b4 => nm (I b4 (Int32.toNatClampNeg x1)) fun y5 => nm ((R b2 (Int32.toNatClampNeg y5)).getD 0) fun b6 => nmU (F_X1_link b1 b6 I J R) fun y7 I7 _ R7 => (if y7 = (0 : Int32) then ((-6 : Int32), (I7, J, R7)) else nm ((R7 a0 8).getD 0) fun b11 => nm ((R7 a0 6).getD 0) fun b12 => nm ((R7 b12 1).getD 0) fun b13 => nm (x1 * (3 : Int32)) fun y14 => nmU (F_X1_perform b11 b13 y14 I7 J R7) fun y15 I15 J15 R15 => (if y15 = (0 : Int32) then ((-7 : Int32), (I15, J15, R15)) else ((0 : Int32), (I15, J15, R15))))
def ms_X10_finish : List Nat := [71, 72, 73, 74, 196, 197, 256, 257, 258, 259, 260, 394, 395, 2752, 2816, 3136, 3264, 3328, 3392]
set_option maxHeartbeats 4000000 in
set_option maxRecDepth 100000 in
theorem c_X10_finish {l : Launch} {D : va_G} {cy : Nat → ClassId} {L : List Nat} {C : Nat → Nat} {b0 : Nat} {I : hI} {J : hJ} {R : hR} {a0 : Nat} {x1 : Int32} (oI : OkI L C I) (oR : OkR L C R) (m0 : a0 ∈ L) (k0 : C a0 = 10) (h1 : Rg x1 (0) (19)) (hXM : XM L C I) : CI l yX10_finish cX10_finish 2 .int 13 D cy L C b0 [.ref a0, .int x1] (I, J, R) (fun r v => Ps L C ms_X10_finish (I, J, R) v ∧ Rg r (-7) (0) ∧ F_X10_finish a0 x1 I J R = (r, v)) := by
  refine CI.mkI (plainFor_of_name (by decide)) (Nat.le_of_ble_eq_true rfl) ?_
  intro p e s m args below meth c ls Q hF ret hH hl
  obtain ⟨hx, hb, -, hml, hown, hts, -⟩ := hF
  have hl : lv_has ls 2 [(0, .ref a0), (1, .int x1)] := hl
  have hH : Hp D cy L C b0 s s.heap I J R s.heap [] := hH
  have sm : Sm C ms_X10_finish (I, J, R) (I, J, R) := Sm.rf
  obtain ⟨TT0, hT⟩ : ∃ TT0, TT0 = F_X10_finish a0 x1 I J R := ⟨_, rfl⟩
  have hv := hT
  unfold F_X10_finish at hv
  refine lv_aload_n hx hb dX10_finish_0 rfl (lv_at hl 0 rfl) ?_
  obtain ⟨b1, mb1, vb1, kb1⟩ := rf_10_8 oR m0 k0
  replace hv := fnR hv vb1
  refine gf_10_8 vb1 hx hb hts hown hH m0 k0 rfl kf_X10_73 dX10_finish_1 ?_
  refine lv_aload_n hx hb dX10_finish_4 rfl (lv_at hl 0 rfl) ?_
  obtain ⟨b2, mb2, vb2, kb2⟩ := rf_10_4 oR m0 k0
  replace hv := fnR hv vb2
  refine gf_10_4 vb2 hx hb hts hown hH m0 k0 rfl kf_X10_41 dX10_finish_5 ?_
  refine lv_aload_n hx hb dX10_finish_8 rfl (lv_at hl 0 rfl) ?_
  obtain ⟨b3, mb3, vb3, kb3⟩ := rf_10_6 oR m0 k0
  replace hv := fnR hv vb3
  refine gf_10_6 vb3 hx hb hts hown hH m0 k0 rfl kf_X10_57 dX10_finish_9 ?_
  obtain ⟨b4, mb4, vb4, kb4⟩ := rf_8_0 oR mb3 kb3
  replace hv := fnR hv vb4
  refine gf_8_0 vb4 hx hb hts hown hH mb3 kb3 rfl kf_X10_264 dX10_finish_12 ?_
  refine lv_iload_n hx hb dX10_finish_15 rfl (lv_at hl 1 rfl) ?_
  refine ld_48 hx hb hH mb4 kb4 (Rg_in h1 (by decide)) dX10_finish_16 ?_
  refine lv_topi (fun y5 ey5 => ?_)
  have ry5 : Rg y5 (0) (9) := by rw [ey5]; exact rd_48 oI mb4 kb4 (Rg_in h1 (by decide))
  replace hv := fnS hv ey5
  obtain ⟨b6, mb6, vb6, kb6⟩ := rr_57 oR mb2 kb2 (Rg_in ry5 (by decide))
  replace hv := fnR hv vb6
  refine ld_57 hx hb hH mb2 kb2 (Rg_in ry5 (by decide)) vb6 dX10_finish_17 ?_
  refine ca_X10_238 hx hb hml hown hts hH (c_X1_link oI oR mb1 kb1 mb6 kb6) hl.1 mb1 kb1 rfl (by decide) (Nat.le_of_ble_eq_true rfl) ⟨Nat.zero_le _, Nat.zero_le _⟩ dX10_finish_18 (fun y7 I7 J7 R7 H locs hp hH => ?_)
  obtain ⟨⟨oI, oR, sc7⟩, eJ7, ry7, hf7⟩ := hp
  obtain rfl : J = J7 := eJ7.symm
  replace hv := fnC hv hf7
  have sm : Sm C ms_X10_finish (I, J, R) (I7, J, R7) := sm.tr sc7 rfl
  refine lv_if_ne (tgt := 27) hx hb dX10_finish_21 (by decide) (fun q8 => ?_) (fun q8 => ?_)
  rotate_left
  · replace hv := fnP hv q8
    have l21 := congrArg Int32.toInt q8
    have r22 : Rg y7 (0) (0) := Rg_both ry7 (Rg_eqv q8 (Rg_c (x := 0) (a := (0)) (b := (0)) (by decide))) (by decide)
    refine lv_bipush (v := (-6)) hx hb dX10_finish_24 (by decide) ?_
    exact ret ((-6)) _ _ _ _ _ _ _ dX10_finish_26 hH ⟨⟨oI, oR, sm⟩, (Rg_w (Rg_c (x := (-6)) (a := (-6)) (b := (-6)) (by decide)) (by decide)), (hT.symm.trans hv)⟩
  replace hv := fnN hv q8
  have l9 := Rg_ne q8
  have r10 : Rg y7 (1) (1) := Rg_nelo ry7 (Rg_ne q8) (Rg_c (x := 0) (a := (0)) (b := (0)) (by decide)) (by decide)
  refine lv_aload_n hx hb dX10_finish_27 rfl (lv_at hl 0 rfl) ?_
  obtain ⟨b11, mb11, vb11, kb11⟩ := rf_10_8 oR m0 k0
  replace hv := fnR hv vb11
  refine gf_10_8 vb11 hx hb hts hown hH m0 k0 rfl kf_X10_73 dX10_finish_28 ?_
  refine lv_aload_n hx hb dX10_finish_31 rfl (lv_at hl 0 rfl) ?_
  obtain ⟨b12, mb12, vb12, kb12⟩ := rf_10_6 oR m0 k0
  replace hv := fnR hv vb12
  refine gf_10_6 vb12 hx hb hts hown hH m0 k0 rfl kf_X10_57 dX10_finish_32 ?_
  obtain ⟨b13, mb13, vb13, kb13⟩ := rf_8_1 oR mb12 kb12
  replace hv := fnR hv vb13
  refine gf_8_1 vb13 hx hb hts hown hH mb12 kb12 rfl kf_X10_225 dX10_finish_35 ?_
  refine lv_iload_n hx hb dX10_finish_38 rfl (lv_at hl 1 rfl) ?_
  refine lv_iconst (v := 3) hx hb dX10_finish_39 (by decide) ?_
  refine lv_imul hx hb dX10_finish_40 ?_
  refine lv_topi (fun y14 ey14 => ?_)
  replace hv := fnS hv ey14
  obtain ⟨ty14, ry14⟩ := Rg_mulx (a' := (0)) (b' := (57)) (rfl : x1.toInt = _) (by decide : Int32.toInt 3 = 3) h1 (Rg_c (x := 3) (a := (3)) (b := (3)) (by decide)) (by decide)
  rw [← ey14] at ty14 ry14
  refine ca_X10_267 hx hb hml hown hts hH (c_X1_perform oI oR mb11 kb11 mb13 kb13 ry14 (by exact XM.sm (u := (I, J, R)) (v := (I7, J, R7)) hXM sm rfl rfl)) hl.1 mb11 kb11 rfl (by decide) (Nat.le_of_ble_eq_true rfl) ⟨Nat.zero_le _, Nat.zero_le _⟩ dX10_finish_41 (fun y15 I15 J15 R15 H locs hp hH => ?_)
  obtain ⟨⟨oI, oR, sc15⟩, ry15, hf15⟩ := hp
  replace hv := fnC hv hf15
  have sm : Sm C ms_X10_finish (I, J, R) (I15, J15, R15) := sm.tr sc15 rfl
  refine lv_if_eq (tgt := 51) hx hb dX10_finish_44 (by decide) (fun q16 => ?_) (fun q16 => ?_)
  · replace hv := fnP hv q16
    have l17 := congrArg Int32.toInt q16
    have r18 : Rg y15 (0) (0) := Rg_both ry15 (Rg_eqv q16 (Rg_c (x := 0) (a := (0)) (b := (0)) (by decide))) (by decide)
    refine lv_bipush (v := (-7)) hx hb dX10_finish_51 (by decide) ?_
    exact ret ((-7)) _ _ _ _ _ _ _ dX10_finish_53 hH ⟨⟨oI, oR, sm⟩, (Rg_w (Rg_c (x := (-7)) (a := (-7)) (b := (-7)) (by decide)) (by decide)), (hT.symm.trans hv)⟩
  replace hv := fnN hv q16
  have l19 := Rg_ne q16
  have r20 : Rg y15 (1) (1) := Rg_nelo ry15 (Rg_ne q16) (Rg_c (x := 0) (a := (0)) (b := (0)) (by decide)) (by decide)
  refine lv_iconst (v := 0) hx hb dX10_finish_47 (by decide) ?_
  refine lv_goto (tgt := 53) hx hb dX10_finish_48 (by decide) ?_
  exact ret (0) _ _ _ _ _ _ _ dX10_finish_53 hH ⟨⟨oI, oR, sm⟩, (Rg_w (Rg_c (x := 0) (a := (0)) (b := (0)) (by decide)) (by decide)), (hT.symm.trans hv)⟩
noncomputable def F_X10_call (a0 : Nat) (x1 : Int32) (x2 : Int32) (x3 : Int32) (I : hI) (J : hJ) (R : hR) : Int32 × hU :=
  nm ((R a0 6).getD 0) fun b1 => nm (F_X8_has b1 x1 I J R) fun y2 => (if y2 = (1 : Int32) then nm (F_X10_isWithin x2 (0 : Int32) (9 : Int32)) fun y5 => (if y5 = (1 : Int32) then nm ((R a0 4).getD 0) fun b11 => nm ((10 : Int32) + x2) fun y12 => nm ((R b11 (Int32.toNatClampNeg y12)).getD 0) fun b13 => nm (F_X7_has b13 x3 I J R) fun y14 => (if y14 = (1 : Int32) then nm ((R a0 8).getD 0) fun b17 => nm ((R b13 0).getD 0) fun b19 => nm ((R b19 (Int32.toNatClampNeg x3)).getD 0) fun b20 => nmW (F_X1_begin b17 b20 I J R) fun I21 _ R21 => nmU (F_X10_finish a0 x1 I21 J R21) fun y22 I22 J22 R22 => (y22, (I22, J22, R22)) else ((-2 : Int32), (I, J, R))) else ((-3 : Int32), (I, J, R))) else ((-2 : Int32), (I, J, R)))
def ms_X10_call : List Nat := [71, 72, 73, 74, 196, 197, 256, 257, 258, 259, 260, 394, 395, 2752, 2816, 3136, 3264, 3328, 3392]
set_option maxHeartbeats 4000000 in
set_option maxRecDepth 100000 in
theorem c_X10_call {l : Launch} {D : va_G} {cy : Nat → ClassId} {L : List Nat} {C : Nat → Nat} {b0 : Nat} {I : hI} {J : hJ} {R : hR} {a0 : Nat} {x1 : Int32} {x2 : Int32} {x3 : Int32} (oI : OkI L C I) (oR : OkR L C R) (m0 : a0 ∈ L) (k0 : C a0 = 10) (hXM : XM L C I) : CI l yX10_call cX10_call 4 .int 14 D cy L C b0 [.ref a0, .int x1, .int x2, .int x3] (I, J, R) (fun r v => Ps L C ms_X10_call (I, J, R) v ∧ Rg r (-7) (0) ∧ F_X10_call a0 x1 x2 x3 I J R = (r, v)) := by
  refine CI.mkI (plainFor_of_name (by decide)) (Nat.le_of_ble_eq_true rfl) ?_
  intro p e s m args below meth c ls Q hF ret hH hl
  obtain ⟨hx, hb, -, hml, hown, hts, -⟩ := hF
  have hl : lv_has ls 4 [(0, .ref a0), (1, .int x1), (2, .int x2), (3, .int x3)] := hl
  have hH : Hp D cy L C b0 s s.heap I J R s.heap [] := hH
  have sm : Sm C ms_X10_call (I, J, R) (I, J, R) := Sm.rf
  obtain ⟨TT0, hT⟩ : ∃ TT0, TT0 = F_X10_call a0 x1 x2 x3 I J R := ⟨_, rfl⟩
  have hv := hT
  unfold F_X10_call at hv
  refine lv_aload_n hx hb dX10_call_0 rfl (lv_at hl 0 rfl) ?_
  obtain ⟨b1, mb1, vb1, kb1⟩ := rf_10_6 oR m0 k0
  replace hv := fnR hv vb1
  refine gf_10_6 vb1 hx hb hts hown hH m0 k0 rfl kf_X10_57 dX10_call_1 ?_
  refine lv_iload_n hx hb dX10_call_4 rfl (lv_at hl 1 rfl) ?_
  refine ca_X10_224 hx hb hml hown hts hH (c_X8_has oI oR mb1 kb1) hl.1 mb1 kb1 rfl (by decide) (Nat.le_of_ble_eq_true rfl) ⟨Nat.zero_le _, Nat.zero_le _⟩ dX10_call_5 (fun y2 I2 J2 R2 H locs hp hH => ?_)
  obtain ⟨eI2, eJ2, eR2, ry2, hp2, hf2⟩ := hp
  obtain rfl : I = I2 := eI2.symm
  obtain rfl : J = J2 := eJ2.symm
  obtain rfl : R = R2 := eR2.symm
  replace hv := fnS hv hf2.symm
  rcases hp2 with ⟨rfl, hq2⟩ | ⟨rfl, hq2⟩
  rotate_left
  · replace hv := fnN hv (by decide)
    refine lv_if_ne (tgt := 14) hx hb dX10_call_8 (by decide) (fun q25 => ?_) (fun q25 => ?_)
    · exact absurd rfl q25
    refine lv_bipush (v := (-2)) hx hb dX10_call_11 (by decide) ?_
    exact ret ((-2)) _ _ _ _ _ _ _ dX10_call_13 hH ⟨⟨oI, oR, sm⟩, (Rg_w (Rg_c (x := (-2)) (a := (-2)) (b := (-2)) (by decide)) (by decide)), (hT.symm.trans hv)⟩
  replace hv := fnP hv rfl
  have r3 : Rg x1 (0) (19) := ⟨by have h9 := (Rg_any x1).1; omega, by have h9 := (Rg_any x1).2; omega⟩
  refine lv_if_ne (tgt := 14) hx hb dX10_call_8 (by decide) (fun q4 => ?_) (fun q4 => ?_)
  rotate_left
  · exact absurd q4 (by decide)
  refine lv_iload_n hx hb dX10_call_14 rfl (lv_at hl 2 rfl) ?_
  refine lv_iconst (v := 0) hx hb dX10_call_15 (by decide) ?_
  refine lv_bipush (v := 9) hx hb dX10_call_16 (by decide) ?_
  refine ca_X10_82 hx hb hml hown hts hH (c_X10_isWithin ) hl.1 (by decide) (Nat.le_of_ble_eq_true rfl) ⟨Nat.zero_le _, Nat.zero_le _⟩ dX10_call_18 (fun y5 I5 J5 R5 H locs hp hH => ?_)
  obtain ⟨eI5, eJ5, eR5, ry5, hp5, hf5⟩ := hp
  obtain rfl : I = I5 := eI5.symm
  obtain rfl : J = J5 := eJ5.symm
  obtain rfl : R = R5 := eR5.symm
  replace hv := fnS hv hf5.symm
  rcases hp5 with ⟨rfl, hq5⟩ | ⟨rfl, hq5⟩
  rotate_left
  · replace hv := fnN hv (by decide)
    refine lv_if_ne (tgt := 27) hx hb dX10_call_21 (by decide) (fun q24 => ?_) (fun q24 => ?_)
    · exact absurd rfl q24
    refine lv_bipush (v := (-3)) hx hb dX10_call_24 (by decide) ?_
    exact ret ((-3)) _ _ _ _ _ _ _ dX10_call_26 hH ⟨⟨oI, oR, sm⟩, (Rg_w (Rg_c (x := (-3)) (a := (-3)) (b := (-3)) (by decide)) (by decide)), (hT.symm.trans hv)⟩
  replace hv := fnP hv rfl
  have l6 := hq5.1
  have r7 : Rg x2 (0) (2147483647) := Rg_lle (Rg_any x2) l6 (Rg_c (x := 0) (a := (0)) (b := (0)) (by decide)) (by decide)
  have l8 := hq5.2
  have r9 : Rg x2 (0) (9) := Rg_ule r7 l8 (Rg_c (x := 9) (a := (9)) (b := (9)) (by decide)) (by decide)
  refine lv_if_ne (tgt := 27) hx hb dX10_call_21 (by decide) (fun q10 => ?_) (fun q10 => ?_)
  rotate_left
  · exact absurd q10 (by decide)
  refine lv_aload_n hx hb dX10_call_27 rfl (lv_at hl 0 rfl) ?_
  obtain ⟨b11, mb11, vb11, kb11⟩ := rf_10_4 oR m0 k0
  replace hv := fnR hv vb11
  refine gf_10_4 vb11 hx hb hts hown hH m0 k0 rfl kf_X10_41 dX10_call_28 ?_
  refine lv_bipush (v := 10) hx hb dX10_call_31 (by decide) ?_
  refine lv_iload_n hx hb dX10_call_33 rfl (lv_at hl 2 rfl) ?_
  refine lv_iadd hx hb dX10_call_34 ?_
  refine lv_topi (fun y12 ey12 => ?_)
  replace hv := fnS hv ey12
  obtain ⟨ty12, ry12⟩ := Rg_addx (a' := (10)) (b' := (19)) (by decide : Int32.toInt 10 = 10) (rfl : x2.toInt = _) (Rg_c (x := 10) (a := (10)) (b := (10)) (by decide)) r9 (by decide)
  rw [← ey12] at ty12 ry12
  obtain ⟨b13, mb13, vb13, kb13⟩ := rr_57 oR mb11 kb11 (Rg_in ry12 (by decide))
  replace hv := fnR hv vb13
  refine ld_57 hx hb hH mb11 kb11 (Rg_in ry12 (by decide)) vb13 dX10_call_35 ?_
  refine lv_iload_n hx hb dX10_call_36 rfl (lv_at hl 3 rfl) ?_
  refine ca_X10_151 hx hb hml hown hts hH (c_X7_has oI oR mb13 kb13) hl.1 mb13 kb13 rfl (by decide) (Nat.le_of_ble_eq_true rfl) ⟨Nat.zero_le _, Nat.zero_le _⟩ dX10_call_37 (fun y14 I14 J14 R14 H locs hp hH => ?_)
  obtain ⟨eI14, eJ14, eR14, ry14, hp14, hf14⟩ := hp
  obtain rfl : I = I14 := eI14.symm
  obtain rfl : J = J14 := eJ14.symm
  obtain rfl : R = R14 := eR14.symm
  replace hv := fnS hv hf14.symm
  rcases hp14 with ⟨rfl, hq14⟩ | ⟨rfl, hq14⟩
  rotate_left
  · replace hv := fnN hv (by decide)
    refine lv_if_ne (tgt := 46) hx hb dX10_call_40 (by decide) (fun q23 => ?_) (fun q23 => ?_)
    · exact absurd rfl q23
    refine lv_bipush (v := (-2)) hx hb dX10_call_43 (by decide) ?_
    exact ret ((-2)) _ _ _ _ _ _ _ dX10_call_45 hH ⟨⟨oI, oR, sm⟩, (Rg_w (Rg_c (x := (-2)) (a := (-2)) (b := (-2)) (by decide)) (by decide)), (hT.symm.trans hv)⟩
  replace hv := fnP hv rfl
  have r15 : Rg x3 (0) (5) := ⟨by have h9 := (Rg_any x3).1; omega, by have h9 := (Rg_any x3).2; omega⟩
  refine lv_if_ne (tgt := 46) hx hb dX10_call_40 (by decide) (fun q16 => ?_) (fun q16 => ?_)
  rotate_left
  · exact absurd q16 (by decide)
  refine lv_aload_n hx hb dX10_call_46 rfl (lv_at hl 0 rfl) ?_
  obtain ⟨b17, mb17, vb17, kb17⟩ := rf_10_8 oR m0 k0
  replace hv := fnR hv vb17
  refine gf_10_8 vb17 hx hb hts hown hH m0 k0 rfl kf_X10_73 dX10_call_47 ?_
  refine lv_aload_n hx hb dX10_call_50 rfl (lv_at hl 0 rfl) ?_
  refine gf_10_4 vb11 hx hb hts hown hH m0 k0 rfl kf_X10_41 dX10_call_51 ?_
  refine lv_bipush (v := 10) hx hb dX10_call_54 (by decide) ?_
  refine lv_iload_n hx hb dX10_call_56 rfl (lv_at hl 2 rfl) ?_
  refine lv_iadd hx hb dX10_call_57 ?_
  refine lv_topi (fun y18 ey18 => ?_)
  obtain rfl : y12 = y18 := ey12.trans ey18.symm
  refine ld_57 hx hb hH mb11 kb11 (Rg_in ry12 (by decide)) vb13 dX10_call_58 ?_
  obtain ⟨b19, mb19, vb19, kb19⟩ := rf_7_0 oR mb13 kb13
  replace hv := fnR hv vb19
  refine gf_7_0 vb19 hx hb hts hown hH mb13 kb13 rfl kf_X10_154 dX10_call_59 ?_
  refine lv_iload_n hx hb dX10_call_62 rfl (lv_at hl 3 rfl) ?_
  obtain ⟨b20, mb20, vb20, kb20⟩ := rr_56 oR mb19 kb19 (Rg_in r15 (by decide))
  replace hv := fnR hv vb20
  refine ld_56 hx hb hH mb19 kb19 (Rg_in r15 (by decide)) vb20 dX10_call_63 ?_
  refine ca_X10_231 hx hb hml hown hts hH (c_X1_begin oI oR mb17 kb17 mb20 kb20) hl.1 mb17 kb17 rfl (by decide) (Nat.le_of_ble_eq_true rfl) ⟨Nat.zero_le _, Nat.zero_le _⟩ dX10_call_64 (fun I21 J21 R21 H locs hp hH => ?_)
  obtain ⟨⟨oI, oR, sc21⟩, eJ21, hf21⟩ := hp
  obtain rfl : J = J21 := eJ21.symm
  replace hv := fnW hv hf21
  have sm : Sm C ms_X10_call (I, J, R) (I21, J, R21) := sm.tr sc21 rfl
  refine lv_aload_n hx hb dX10_call_67 rfl (lv_at hl 0 rfl) ?_
  refine lv_iload_n hx hb dX10_call_68 rfl (lv_at hl 1 rfl) ?_
  refine ca_X10_235 hx hb hml hown hts hH (c_X10_finish oI oR m0 k0 r3 (by exact XM.sm (u := (I, J, R)) (v := (I21, J, R21)) hXM sm rfl rfl)) hl.1 m0 k0 rfl (by decide) (Nat.le_of_ble_eq_true rfl) ⟨Nat.zero_le _, Nat.zero_le _⟩ dX10_call_69 (fun y22 I22 J22 R22 H locs hp hH => ?_)
  obtain ⟨⟨oI, oR, sc22⟩, ry22, hf22⟩ := hp
  replace hv := fnC hv hf22
  have sm : Sm C ms_X10_call (I, J, R) (I22, J22, R22) := sm.tr sc22 rfl
  exact ret (y22) _ _ _ _ _ _ _ dX10_call_72 hH ⟨⟨oI, oR, sm⟩, ry22, (hT.symm.trans hv)⟩
noncomputable def B_X10_through_92 (a0 : Nat) (x1 : Int32) (x2 : Int32) (x3 : Int32) (x4 : Int32) (b1 : Nat) (k_92 : hI → hJ → hR → Int32 → (Int32 × hU)) (I_92 : hI) (J_92 : hJ) (R_92 : hR) (x5_92 : Int32) : Int32 × hU :=
  (if x5_92 < (0 : Int32) then nmU (F_X10_finish a0 x1 I_92 J_92 R_92) fun y5 I5 J5 R5 => (y5, (I5, J5, R5)) else nm ((R_92 a0 8).getD 0) fun b8 => nm ((R_92 a0 4).getD 0) fun b9 => nm ((R_92 a0 5).getD 0) fun b10 => nm ((R_92 b10 6).getD 0) fun b11 => nm (I_92 b11 (Int32.toNatClampNeg x5_92)) fun y12 => nm ((10 : Int32) + y12) fun y13 => nm ((R_92 b9 (Int32.toNatClampNeg y13)).getD 0) fun b14 => nmU (F_X1_link b8 b14 I_92 J_92 R_92) fun y15 I15 _ R15 => (if y15 = (0 : Int32) then ((-6 : Int32), (I15, J_92, R15)) else nm (x5_92 + (-1 : Int32)) fun y19 => k_92 I15 J_92 R15 y19))
noncomputable def F_X10_through_92 (a0 : Nat) (x1 : Int32) (x2 : Int32) (x3 : Int32) (x4 : Int32) (b1 : Nat) : Nat → hI → hJ → hR → Int32 → (Int32 × hU) := fun n => Nat.rec (motive := fun _ => hI → hJ → hR → Int32 → (Int32 × hU)) (fun _ _ _ _ => default) (fun _ k => B_X10_through_92 a0 x1 x2 x3 x4 b1 k) n
theorem F_X10_through_92_s {a0 : Nat} {x1 : Int32} {x2 : Int32} {x3 : Int32} {x4 : Int32} {b1 : Nat} {n : Nat} {I_92 : hI} {J_92 : hJ} {R_92 : hR} {x5_92 : Int32} : F_X10_through_92 a0 x1 x2 x3 x4 b1 (n + 1)  I_92 J_92 R_92 x5_92 = B_X10_through_92 a0 x1 x2 x3 x4 b1 (F_X10_through_92 a0 x1 x2 x3 x4 b1 n)  I_92 J_92 R_92 x5_92 := rfl
noncomputable def F_X10_through (a0 : Nat) (x1 : Int32) (x2 : Int32) (x3 : Int32) (x4 : Int32) (I : hI) (J : hJ) (R : hR) : Int32 × hU :=
  nm ((R a0 6).getD 0) fun b1 => nm (F_X8_has b1 x1 I J R) fun y22 => (if y22 = (1 : Int32) then nm (F_X10_areFaces x2 x3) fun y25 => (if y25 = (1 : Int32) then nm ((R a0 5).getD 0) fun b29 => nmU (F_X9_find b29 x2 x3 I J R) fun y30 I30 _ _ => (if y30 = (0 : Int32) then ((-1 : Int32), (I30, J, R)) else nm ((R a0 4).getD 0) fun b34 => nm ((10 : Int32) + x3) fun y35 => nm ((R b34 (Int32.toNatClampNeg y35)).getD 0) fun b36 => nm (F_X7_has b36 x4 I30 J R) fun y37 => (if y37 = (1 : Int32) then nm ((R a0 8).getD 0) fun b40 => nm ((R b36 0).getD 0) fun b42 => nm ((R b42 (Int32.toNatClampNeg x4)).getD 0) fun b43 => nmW (F_X1_begin b40 b43 I30 J R) fun I44 _ R44 => nm ((R44 a0 5).getD 0) fun b45 => nm (I44 b45 5) fun y46 => nm (y46 - (2 : Int32)) fun y47 => F_X10_through_92 a0 x1 x2 x3 x4 b1 ((y47.toInt + 1).toNat + 1) I44 J R44 y47 else ((-2 : Int32), (I30, J, R)))) else ((-3 : Int32), (I, J, R))) else ((-2 : Int32), (I, J, R)))
def ms_X10_through : List Nat := [71, 72, 73, 74, 196, 197, 256, 257, 258, 259, 260, 394, 395, 580, 581, 2752, 2816, 2880, 2944, 3008, 3136, 3264, 3328, 3392]
set_option maxHeartbeats 4000000 in
set_option maxRecDepth 100000 in
theorem c_X10_through {l : Launch} {D : va_G} {cy : Nat → ClassId} {L : List Nat} {C : Nat → Nat} {b0 : Nat} {I : hI} {J : hJ} {R : hR} {a0 : Nat} {x1 : Int32} {x2 : Int32} {x3 : Int32} {x4 : Int32} (oI : OkI L C I) (oR : OkR L C R) (m0 : a0 ∈ L) (k0 : C a0 = 10) (hXM : XM L C I) : CI l yX10_through cX10_through 6 .int 15 D cy L C b0 [.ref a0, .int x1, .int x2, .int x3, .int x4] (I, J, R) (fun r v => Ps L C ms_X10_through (I, J, R) v ∧ Rg r (-7) (0) ∧ F_X10_through a0 x1 x2 x3 x4 I J R = (r, v)) := by
  refine CI.mkI (plainFor_of_name (by decide)) (Nat.le_of_ble_eq_true rfl) ?_
  intro p e s m args below meth c ls Q hF ret hH hl
  obtain ⟨hx, hb, -, hml, hown, hts, -⟩ := hF
  have hl : lv_has ls 6 [(0, .ref a0), (1, .int x1), (2, .int x2), (3, .int x3), (4, .int x4)] := hl
  have hH : Hp D cy L C b0 s s.heap I J R s.heap [] := hH
  have sm : Sm C ms_X10_through (I, J, R) (I, J, R) := Sm.rf
  obtain ⟨TT0, hT⟩ : ∃ TT0, TT0 = F_X10_through a0 x1 x2 x3 x4 I J R := ⟨_, rfl⟩
  have hv := hT
  unfold F_X10_through at hv
  refine lv_aload_n hx hb dX10_through_0 rfl (lv_at hl 0 rfl) ?_
  obtain ⟨b1, mb1, vb1, kb1⟩ := rf_10_6 oR m0 k0
  replace hv := fnR hv vb1
  refine gf_10_6 vb1 hx hb hts hown hH m0 k0 rfl kf_X10_57 dX10_through_1 ?_
  refine lv_iload_n hx hb dX10_through_4 rfl (lv_at hl 1 rfl) ?_
  have L_92 : ∀ (n_92 : Nat) (I_92 : hI) (J_92 : hJ) (R_92 : hR) (H : Heap) (locs : List Loc) (ls : Array Slot) (x5_92 : Int32), (x5_92.toInt + 1).toNat < n_92 → Hp D cy L C b0 s s.heap I_92 J_92 R_92 H locs → TT0 = F_X10_through_92 a0 x1 x2 x3 x4 b1 n_92 I_92 J_92 R_92 x5_92 → OkI L C I_92 → OkR L C R_92 → Sm C ms_X10_through (I, J, R) (I_92, J_92, R_92) → Rg x1 (0) (19) → Rg x5_92 (-2) (8) → lv_has ls 6 [(0, .ref a0), (1, .int x1), (5, .int x5_92)] → W p l e (rmD 15) s m args below meth c H locs 0 0 Q (F0 m 92 ls []) := by
    intro n_92
    induction n_92 with
    | zero => intro I_92 J_92 R_92 H locs ls x5_92 h; exact absurd h (Nat.not_lt_zero _)
    | succ n_92 ih_92 =>
      intro I_92 J_92 R_92 H locs ls x5_92 hn_92 hH hv oI oR sm r1_92 r5_92 hl
      replace hv := hv.trans F_X10_through_92_s
      unfold B_X10_through_92 at hv
      refine lv_iload hx hb dX10_through_92 (lv_at hl 2 rfl) ?_
      refine lv_if_lt (tgt := 134) hx hb dX10_through_94 (by decide) (fun q2 => ?_) (fun q2 => ?_)
      · replace hv := fnP hv q2
        have l3 := Rg_lt q2
        have r4 : Rg x5_92 (-2) (-1) := Rg_ult r5_92 (Rg_lt q2) (Rg_c (x := 0) (a := (0)) (b := (0)) (by decide)) (by decide)
        refine lv_aload_n hx hb dX10_through_134 rfl (lv_at hl 0 rfl) ?_
        refine lv_iload_n hx hb dX10_through_135 rfl (lv_at hl 1 rfl) ?_
        refine ca_X10_235 hx hb hml hown hts hH (c_X10_finish oI oR m0 k0 r1_92 (by exact XM.sm (u := (I, J, R)) (v := (I_92, J_92, R_92)) hXM sm rfl rfl)) hl.1 m0 k0 rfl (by decide) (Nat.le_of_ble_eq_true rfl) ⟨Nat.zero_le _, Nat.zero_le _⟩ dX10_through_136 (fun y5 I5 J5 R5 H locs hp hH => ?_)
        obtain ⟨⟨oI, oR, sc5⟩, ry5, hf5⟩ := hp
        replace hv := fnC hv hf5
        have sm : Sm C ms_X10_through (I, J, R) (I5, J5, R5) := sm.tr sc5 rfl
        exact ret (y5) _ _ _ _ _ _ _ dX10_through_139 hH ⟨⟨oI, oR, sm⟩, ry5, (hT.symm.trans hv)⟩
      replace hv := fnN hv q2
      have l6 := Rg_nlt q2
      have r7 : Rg x5_92 (0) (8) := Rg_lle r5_92 (Rg_nlt q2) (Rg_c (x := 0) (a := (0)) (b := (0)) (by decide)) (by decide)
      refine lv_aload_n hx hb dX10_through_97 rfl (lv_at hl 0 rfl) ?_
      obtain ⟨b8, mb8, vb8, kb8⟩ := rf_10_8 oR m0 k0
      replace hv := fnR hv vb8
      refine gf_10_8 vb8 hx hb hts hown hH m0 k0 rfl kf_X10_73 dX10_through_98 ?_
      refine lv_aload_n hx hb dX10_through_101 rfl (lv_at hl 0 rfl) ?_
      obtain ⟨b9, mb9, vb9, kb9⟩ := rf_10_4 oR m0 k0
      replace hv := fnR hv vb9
      refine gf_10_4 vb9 hx hb hts hown hH m0 k0 rfl kf_X10_41 dX10_through_102 ?_
      refine lv_bipush (v := 10) hx hb dX10_through_105 (by decide) ?_
      refine lv_aload_n hx hb dX10_through_107 rfl (lv_at hl 0 rfl) ?_
      obtain ⟨b10, mb10, vb10, kb10⟩ := rf_10_5 oR m0 k0
      replace hv := fnR hv vb10
      refine gf_10_5 vb10 hx hb hts hown hH m0 k0 rfl kf_X10_50 dX10_through_108 ?_
      obtain ⟨b11, mb11, vb11, kb11⟩ := rf_9_6 oR mb10 kb10
      replace hv := fnR hv vb11
      refine gf_9_6 vb11 hx hb hts hown hH mb10 kb10 rfl kf_X10_217 dX10_through_111 ?_
      refine lv_iload hx hb dX10_through_114 (lv_at hl 2 rfl) ?_
      refine ld_47 hx hb hH mb11 kb11 (Rg_in r7 (by decide)) dX10_through_116 ?_
      refine lv_topi (fun y12 ey12 => ?_)
      have ry12 : Rg y12 (0) (9) := by rw [ey12]; exact rd_47 oI mb11 kb11 (Rg_in r7 (by decide))
      replace hv := fnS hv ey12
      refine lv_iadd hx hb dX10_through_117 ?_
      refine lv_topi (fun y13 ey13 => ?_)
      replace hv := fnS hv ey13
      obtain ⟨ty13, ry13⟩ := Rg_addx (a' := (10)) (b' := (19)) (by decide : Int32.toInt 10 = 10) (rfl : y12.toInt = _) (Rg_c (x := 10) (a := (10)) (b := (10)) (by decide)) ry12 (by decide)
      rw [← ey13] at ty13 ry13
      obtain ⟨b14, mb14, vb14, kb14⟩ := rr_57 oR mb9 kb9 (Rg_in ry13 (by decide))
      replace hv := fnR hv vb14
      refine ld_57 hx hb hH mb9 kb9 (Rg_in ry13 (by decide)) vb14 dX10_through_118 ?_
      refine ca_X10_238 hx hb hml hown hts hH (c_X1_link oI oR mb8 kb8 mb14 kb14) hl.1 mb8 kb8 rfl (by decide) (Nat.le_of_ble_eq_true rfl) ⟨Nat.zero_le _, Nat.zero_le _⟩ dX10_through_119 (fun y15 I15 J15 R15 H locs hp hH => ?_)
      obtain ⟨⟨oI, oR, sc15⟩, eJ15, ry15, hf15⟩ := hp
      obtain rfl : J_92 = J15 := eJ15.symm
      replace hv := fnC hv hf15
      have sm : Sm C ms_X10_through (I, J, R) (I15, J_92, R15) := sm.tr sc15 rfl
      refine lv_if_ne (tgt := 128) hx hb dX10_through_122 (by decide) (fun q16 => ?_) (fun q16 => ?_)
      rotate_left
      · replace hv := fnP hv q16
        have l20 := congrArg Int32.toInt q16
        have r21 : Rg y15 (0) (0) := Rg_both ry15 (Rg_eqv q16 (Rg_c (x := 0) (a := (0)) (b := (0)) (by decide))) (by decide)
        refine lv_bipush (v := (-6)) hx hb dX10_through_125 (by decide) ?_
        exact ret ((-6)) _ _ _ _ _ _ _ dX10_through_127 hH ⟨⟨oI, oR, sm⟩, (Rg_w (Rg_c (x := (-6)) (a := (-6)) (b := (-6)) (by decide)) (by decide)), (hT.symm.trans hv)⟩
      replace hv := fnN hv q16
      have l17 := Rg_ne q16
      have r18 : Rg y15 (1) (1) := Rg_nelo ry15 (Rg_ne q16) (Rg_c (x := 0) (a := (0)) (b := (0)) (by decide)) (by decide)
      obtain ⟨y19, ey19⟩ : ∃ y : Int32, y = x5_92 + (-1) := ⟨_, rfl⟩
      replace hv := fnS hv ey19
      obtain ⟨ty19, ry19⟩ := Rg_addx (a' := (-1)) (b' := (7)) (rfl : x5_92.toInt = _) (by decide : Int32.toInt (-1) = -1) r7 (Rg_c (x := (-1)) (a := (-1)) (b := (-1)) (by decide)) (by decide)
      rw [← ey19] at ty19 ry19
      refine lv_iinc (v := y19) (lv' := [(5, .int y19), (0, .ref a0), (1, .int x1)]) hx hb dX10_through_128 hl (k := 2) rfl (by rw [ey19]; rfl) (by decide) rfl (fun ls hl => ?_)
      refine lv_goto (tgt := 92) hx hb dX10_through_131 (by decide) ?_
      exact ih_92 I15 J_92 R15 _ _ _ y19 (lp_dn hn_92 ty19 r7 (by decide)) hH hv oI oR sm r1_92 (Rg_w ry19 (by decide)) (lv_sub hl [1, 2, 0] rfl)
  refine ca_X10_224 hx hb hml hown hts hH (c_X8_has oI oR mb1 kb1) hl.1 mb1 kb1 rfl (by decide) (Nat.le_of_ble_eq_true rfl) ⟨Nat.zero_le _, Nat.zero_le _⟩ dX10_through_5 (fun y22 I22 J22 R22 H locs hp hH => ?_)
  obtain ⟨eI22, eJ22, eR22, ry22, hp22, hf22⟩ := hp
  obtain rfl : I = I22 := eI22.symm
  obtain rfl : J = J22 := eJ22.symm
  obtain rfl : R = R22 := eR22.symm
  replace hv := fnS hv hf22.symm
  rcases hp22 with ⟨rfl, hq22⟩ | ⟨rfl, hq22⟩
  rotate_left
  · replace hv := fnN hv (by decide)
    refine lv_if_ne (tgt := 14) hx hb dX10_through_8 (by decide) (fun q52 => ?_) (fun q52 => ?_)
    · exact absurd rfl q52
    refine lv_bipush (v := (-2)) hx hb dX10_through_11 (by decide) ?_
    exact ret ((-2)) _ _ _ _ _ _ _ dX10_through_13 hH ⟨⟨oI, oR, sm⟩, (Rg_w (Rg_c (x := (-2)) (a := (-2)) (b := (-2)) (by decide)) (by decide)), (hT.symm.trans hv)⟩
  replace hv := fnP hv rfl
  have r23 : Rg x1 (0) (19) := ⟨by have h9 := (Rg_any x1).1; omega, by have h9 := (Rg_any x1).2; omega⟩
  refine lv_if_ne (tgt := 14) hx hb dX10_through_8 (by decide) (fun q24 => ?_) (fun q24 => ?_)
  rotate_left
  · exact absurd q24 (by decide)
  refine lv_iload_n hx hb dX10_through_14 rfl (lv_at hl 2 rfl) ?_
  refine lv_iload_n hx hb dX10_through_15 rfl (lv_at hl 3 rfl) ?_
  refine ca_X10_208 hx hb hml hown hts hH (c_X10_areFaces ) hl.1 (by decide) (Nat.le_of_ble_eq_true rfl) ⟨Nat.zero_le _, Nat.zero_le _⟩ dX10_through_16 (fun y25 I25 J25 R25 H locs hp hH => ?_)
  obtain ⟨eI25, eJ25, eR25, ry25, hp25, hf25⟩ := hp
  obtain rfl : I = I25 := eI25.symm
  obtain rfl : J = J25 := eJ25.symm
  obtain rfl : R = R25 := eR25.symm
  replace hv := fnS hv hf25.symm
  rcases hp25 with ⟨rfl, hq25⟩ | ⟨rfl, hq25⟩
  rotate_left
  · replace hv := fnN hv (by decide)
    refine lv_if_ne (tgt := 25) hx hb dX10_through_19 (by decide) (fun q51 => ?_) (fun q51 => ?_)
    · exact absurd rfl q51
    refine lv_bipush (v := (-3)) hx hb dX10_through_22 (by decide) ?_
    exact ret ((-3)) _ _ _ _ _ _ _ dX10_through_24 hH ⟨⟨oI, oR, sm⟩, (Rg_w (Rg_c (x := (-3)) (a := (-3)) (b := (-3)) (by decide)) (by decide)), (hT.symm.trans hv)⟩
  replace hv := fnP hv rfl
  have r26 : Rg x2 (0) (9) := ⟨by have h9 := (Rg_any x2).1; omega, by have h9 := (Rg_any x2).2; omega⟩
  have r27 : Rg x3 (0) (9) := ⟨by have h9 := (Rg_any x3).1; omega, by have h9 := (Rg_any x3).2; omega⟩
  refine lv_if_ne (tgt := 25) hx hb dX10_through_19 (by decide) (fun q28 => ?_) (fun q28 => ?_)
  rotate_left
  · exact absurd q28 (by decide)
  refine lv_aload_n hx hb dX10_through_25 rfl (lv_at hl 0 rfl) ?_
  obtain ⟨b29, mb29, vb29, kb29⟩ := rf_10_5 oR m0 k0
  replace hv := fnR hv vb29
  refine gf_10_5 vb29 hx hb hts hown hH m0 k0 rfl kf_X10_50 dX10_through_26 ?_
  refine lv_iload_n hx hb dX10_through_29 rfl (lv_at hl 2 rfl) ?_
  refine lv_iload_n hx hb dX10_through_30 rfl (lv_at hl 3 rfl) ?_
  refine ca_X10_211 hx hb hml hown hts hH (c_X9_find oI oR mb29 kb29 r26 r27) hl.1 mb29 kb29 rfl (by decide) (Nat.le_of_ble_eq_true rfl) ⟨Nat.zero_le _, Nat.zero_le _⟩ dX10_through_31 (fun y30 I30 J30 R30 H locs hp hH => ?_)
  obtain ⟨⟨oI, -, sc30⟩, eJ30, eR30, ry30, hf30⟩ := hp
  obtain rfl : J = J30 := eJ30.symm
  obtain rfl : R = R30 := eR30.symm
  replace hv := fnC hv hf30
  have sm : Sm C ms_X10_through (I, J, R) (I30, J, R) := sm.tr sc30 rfl
  refine lv_if_ne (tgt := 39) hx hb dX10_through_34 (by decide) (fun q31 => ?_) (fun q31 => ?_)
  rotate_left
  · replace hv := fnP hv q31
    have l49 := congrArg Int32.toInt q31
    have r50 : Rg y30 (0) (0) := Rg_both ry30 (Rg_eqv q31 (Rg_c (x := 0) (a := (0)) (b := (0)) (by decide))) (by decide)
    refine lv_iconst (v := (-1)) hx hb dX10_through_37 (by decide) ?_
    exact ret ((-1)) _ _ _ _ _ _ _ dX10_through_38 hH ⟨⟨oI, oR, sm⟩, (Rg_w (Rg_c (x := (-1)) (a := (-1)) (b := (-1)) (by decide)) (by decide)), (hT.symm.trans hv)⟩
  replace hv := fnN hv q31
  have l32 := Rg_ne q31
  have r33 : Rg y30 (1) (1) := Rg_nelo ry30 (Rg_ne q31) (Rg_c (x := 0) (a := (0)) (b := (0)) (by decide)) (by decide)
  refine lv_aload_n hx hb dX10_through_39 rfl (lv_at hl 0 rfl) ?_
  obtain ⟨b34, mb34, vb34, kb34⟩ := rf_10_4 oR m0 k0
  replace hv := fnR hv vb34
  refine gf_10_4 vb34 hx hb hts hown hH m0 k0 rfl kf_X10_41 dX10_through_40 ?_
  refine lv_bipush (v := 10) hx hb dX10_through_43 (by decide) ?_
  refine lv_iload_n hx hb dX10_through_45 rfl (lv_at hl 3 rfl) ?_
  refine lv_iadd hx hb dX10_through_46 ?_
  refine lv_topi (fun y35 ey35 => ?_)
  replace hv := fnS hv ey35
  obtain ⟨ty35, ry35⟩ := Rg_addx (a' := (10)) (b' := (19)) (by decide : Int32.toInt 10 = 10) (rfl : x3.toInt = _) (Rg_c (x := 10) (a := (10)) (b := (10)) (by decide)) r27 (by decide)
  rw [← ey35] at ty35 ry35
  obtain ⟨b36, mb36, vb36, kb36⟩ := rr_57 oR mb34 kb34 (Rg_in ry35 (by decide))
  replace hv := fnR hv vb36
  refine ld_57 hx hb hH mb34 kb34 (Rg_in ry35 (by decide)) vb36 dX10_through_47 ?_
  refine lv_iload hx hb dX10_through_48 (lv_at hl 4 rfl) ?_
  refine ca_X10_151 hx hb hml hown hts hH (c_X7_has oI oR mb36 kb36) hl.1 mb36 kb36 rfl (by decide) (Nat.le_of_ble_eq_true rfl) ⟨Nat.zero_le _, Nat.zero_le _⟩ dX10_through_50 (fun y37 I37 J37 R37 H locs hp hH => ?_)
  obtain ⟨eI37, eJ37, eR37, ry37, hp37, hf37⟩ := hp
  obtain rfl : I30 = I37 := eI37.symm
  obtain rfl : J = J37 := eJ37.symm
  obtain rfl : R = R37 := eR37.symm
  replace hv := fnS hv hf37.symm
  rcases hp37 with ⟨rfl, hq37⟩ | ⟨rfl, hq37⟩
  rotate_left
  · replace hv := fnN hv (by decide)
    refine lv_if_ne (tgt := 59) hx hb dX10_through_53 (by decide) (fun q48 => ?_) (fun q48 => ?_)
    · exact absurd rfl q48
    refine lv_bipush (v := (-2)) hx hb dX10_through_56 (by decide) ?_
    exact ret ((-2)) _ _ _ _ _ _ _ dX10_through_58 hH ⟨⟨oI, oR, sm⟩, (Rg_w (Rg_c (x := (-2)) (a := (-2)) (b := (-2)) (by decide)) (by decide)), (hT.symm.trans hv)⟩
  replace hv := fnP hv rfl
  have r38 : Rg x4 (0) (5) := ⟨by have h9 := (Rg_any x4).1; omega, by have h9 := (Rg_any x4).2; omega⟩
  refine lv_if_ne (tgt := 59) hx hb dX10_through_53 (by decide) (fun q39 => ?_) (fun q39 => ?_)
  rotate_left
  · exact absurd q39 (by decide)
  refine lv_aload_n hx hb dX10_through_59 rfl (lv_at hl 0 rfl) ?_
  obtain ⟨b40, mb40, vb40, kb40⟩ := rf_10_8 oR m0 k0
  replace hv := fnR hv vb40
  refine gf_10_8 vb40 hx hb hts hown hH m0 k0 rfl kf_X10_73 dX10_through_60 ?_
  refine lv_aload_n hx hb dX10_through_63 rfl (lv_at hl 0 rfl) ?_
  refine gf_10_4 vb34 hx hb hts hown hH m0 k0 rfl kf_X10_41 dX10_through_64 ?_
  refine lv_bipush (v := 10) hx hb dX10_through_67 (by decide) ?_
  refine lv_iload_n hx hb dX10_through_69 rfl (lv_at hl 3 rfl) ?_
  refine lv_iadd hx hb dX10_through_70 ?_
  refine lv_topi (fun y41 ey41 => ?_)
  obtain rfl : y35 = y41 := ey35.trans ey41.symm
  refine ld_57 hx hb hH mb34 kb34 (Rg_in ry35 (by decide)) vb36 dX10_through_71 ?_
  obtain ⟨b42, mb42, vb42, kb42⟩ := rf_7_0 oR mb36 kb36
  replace hv := fnR hv vb42
  refine gf_7_0 vb42 hx hb hts hown hH mb36 kb36 rfl kf_X10_154 dX10_through_72 ?_
  refine lv_iload hx hb dX10_through_75 (lv_at hl 4 rfl) ?_
  obtain ⟨b43, mb43, vb43, kb43⟩ := rr_56 oR mb42 kb42 (Rg_in r38 (by decide))
  replace hv := fnR hv vb43
  refine ld_56 hx hb hH mb42 kb42 (Rg_in r38 (by decide)) vb43 dX10_through_77 ?_
  refine ca_X10_231 hx hb hml hown hts hH (c_X1_begin oI oR mb40 kb40 mb43 kb43) hl.1 mb40 kb40 rfl (by decide) (Nat.le_of_ble_eq_true rfl) ⟨Nat.zero_le _, Nat.zero_le _⟩ dX10_through_78 (fun I44 J44 R44 H locs hp hH => ?_)
  obtain ⟨⟨oI, oR, sc44⟩, eJ44, hf44⟩ := hp
  obtain rfl : J = J44 := eJ44.symm
  replace hv := fnW hv hf44
  have sm : Sm C ms_X10_through (I, J, R) (I44, J, R44) := sm.tr sc44 rfl
  refine lv_aload_n hx hb dX10_through_81 rfl (lv_at hl 0 rfl) ?_
  obtain ⟨b45, mb45, vb45, kb45⟩ := rf_10_5 oR m0 k0
  replace hv := fnR hv vb45
  refine gf_10_5 vb45 hx hb hts hown hH m0 k0 rfl kf_X10_50 dX10_through_82 ?_
  refine gf_9_5 hx hb hts hown hH mb45 kb45 rfl kf_X10_214 dX10_through_85 ?_
  refine lv_topi (fun y46 ey46 => ?_)
  have ry46 : Rg y46 (0) (10) := by rw [ey46]; exact rf_9_5 oI mb45 kb45
  replace hv := fnS hv ey46
  refine lv_iconst (v := 2) hx hb dX10_through_88 (by decide) ?_
  refine lv_isub hx hb dX10_through_89 ?_
  refine lv_topi (fun y47 ey47 => ?_)
  replace hv := fnS hv ey47
  obtain ⟨ty47, ry47⟩ := Rg_subx (a' := (-2)) (b' := (8)) (rfl : y46.toInt = _) (by decide : Int32.toInt 2 = 2) ry46 (Rg_c (x := 2) (a := (2)) (b := (2)) (by decide)) (by decide)
  rw [← ey47] at ty47 ry47
  refine lv_istore (lv' := [(5, .int y47), (0, .ref a0), (1, .int x1), (2, .int x2), (3, .int x3), (4, .int x4)]) hx hb dX10_through_90 hl (by decide) rfl (fun ls hl => ?_)
  exact L_92 ((y47.toInt + 1).toNat + 1) I44 J R44 _ _ _ y47 (Nat.lt_succ_self _) hH hv oI oR sm r23 ry47 (lv_sub hl [1, 2, 0] rfl)
