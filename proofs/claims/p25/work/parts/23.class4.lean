noncomputable def F_X3_startOf_77 (a0 : Nat) (a1 : Nat) (a2 : Nat) (y2 : Int32) (y1 : Int32) (I : hI) (J : hJ) (R : hR) (xs0_77 : Int32) : Int32 :=
  xs0_77
noncomputable def F_X3_startOf_68 (a0 : Nat) (a1 : Nat) (a2 : Nat) (y2 : Int32) (y1 : Int32) (I : hI) (J : hJ) (R : hR) (x4_68 : Int32) : Int32 :=
  F_X3_startOf_77 a0 a1 a2 y2 y1 I J R x4_68
noncomputable def F_X3_startOf_41 (a0 : Nat) (a1 : Nat) (a2 : Nat) (y2 : Int32) (y1 : Int32) (I : hI) (J : hJ) (R : hR) (x3_41 : Int32) : Int32 :=
  nm ((R a0 0).getD 0) fun b3 => nm (I a2 1) fun y4 => nm (I a1 1) fun y5 => nm (F_X6_costBetween b3 y4 y5 I J R) fun y6 => (if y6 = (-1 : Int32) then F_X3_startOf_68 a0 a1 a2 y2 y1 I J R y6 else (if x3_41 = (0 : Int32) then nm (y6 + (2 : Int32)) fun y11 => F_X3_startOf_77 a0 a1 a2 y2 y1 I J R y11 else F_X3_startOf_68 a0 a1 a2 y2 y1 I J R y6))
noncomputable def F_X3_startOf_16 (a0 : Nat) (a1 : Nat) (a2 : Nat) (y2 : Int32) (y1 : Int32) (I : hI) (J : hJ) (R : hR) (xs0_16 : Int32) : Int32 :=
  (if xs0_16 = (0 : Int32) then nm ((R a0 1).getD 0) fun b16 => nm (F_X0_has b16 y1 y2 I J R) fun y19 => (if y19 = (0 : Int32) then (-1 : Int32) else F_X3_startOf_41 a0 a1 a2 y2 y1 I J R xs0_16) else F_X3_startOf_41 a0 a1 a2 y2 y1 I J R xs0_16)
noncomputable def F_X3_startOf (a0 : Nat) (a1 : Nat) (a2 : Nat) (I : hI) (J : hJ) (R : hR) : Int32 :=
  nm (I a1 0) fun y1 => nm (I a2 0) fun y2 => (if y1 = y2 then F_X3_startOf_16 a0 a1 a2 y2 y1 I J R (1 : Int32) else F_X3_startOf_16 a0 a1 a2 y2 y1 I J R (0 : Int32))
set_option maxHeartbeats 4000000 in
set_option maxRecDepth 100000 in
theorem c_X3_startOf {l : Launch} {D : va_G} {cy : Nat → ClassId} {L : List Nat} {C : Nat → Nat} {b0 : Nat} {I : hI} {J : hJ} {R : hR} {a0 : Nat} {a1 : Nat} {a2 : Nat} (oI : OkI L C I) (oR : OkR L C R) (m0 : a0 ∈ L) (k0 : C a0 = 3) (m1 : a1 ∈ L) (k1 : C a1 = 5) (m2 : a2 ∈ L) (k2 : C a2 = 5) : CI l yX3_startOf cX3_startOf 5 .int 2 D cy L C b0 [.ref a0, .ref a1, .ref a2] (I, J, R) (fun r v => v.1 = I ∧ v.2.1 = J ∧ v.2.2 = R ∧ F_X3_startOf a0 a1 a2 I J R = r) := by
  refine CI.mkI (plainFor_of_name (by decide)) (Nat.le_of_ble_eq_true rfl) ?_
  intro p e s m args below meth c ls Q hF ret hH hl
  obtain ⟨hx, hb, -, hml, hown, hts, -⟩ := hF
  have hl : lv_has ls 5 [(0, .ref a0), (1, .ref a1), (2, .ref a2)] := hl
  have hH : Hp D cy L C b0 s s.heap I J R s.heap [] := hH
  obtain ⟨TT0, hT⟩ : ∃ TT0, TT0 = F_X3_startOf a0 a1 a2 I J R := ⟨_, rfl⟩
  have hv := hT
  unfold F_X3_startOf at hv
  refine lv_aload_n hx hb dX3_startOf_0 rfl (lv_at hl 1 rfl) ?_
  refine gf_5_0 hx hb hts hown hH m1 k1 rfl kf_X3_59 dX3_startOf_1 ?_
  refine lv_topi (fun y1 ey1 => ?_)
  have ry1 : Rg y1 (0) (99) := by rw [ey1]; exact rf_5_0 oI m1 k1
  replace hv := fnS hv ey1
  refine lv_aload_n hx hb dX3_startOf_4 rfl (lv_at hl 2 rfl) ?_
  refine gf_5_0 hx hb hts hown hH m2 k2 rfl kf_X3_59 dX3_startOf_5 ?_
  refine lv_topi (fun y2 ey2 => ?_)
  have ry2 : Rg y2 (0) (99) := by rw [ey2]; exact rf_5_0 oI m2 k2
  replace hv := fnS hv ey2
  have L_77 : ∀ (H : Heap) (locs : List Loc) (ls : Array Slot) (xs0_77 : Int32), Hp D cy L C b0 s s.heap I J R H locs → TT0 = F_X3_startOf_77 a0 a1 a2 y2 y1 I J R xs0_77 → lv_has ls 5 [] → W p l e (rmD 2) s m args below meth c H locs 0 0 Q (F0 m 77 ls [.int xs0_77]) := by
    intro H locs ls xs0_77 hH hv hl
    unfold F_X3_startOf_77 at hv
    exact ret (xs0_77) _ _ _ _ _ _ _ dX3_startOf_77 hH ⟨rfl, rfl, rfl, (hT.symm.trans hv)⟩
  have L_68 : ∀ (H : Heap) (locs : List Loc) (ls : Array Slot) (x4_68 : Int32), Hp D cy L C b0 s s.heap I J R H locs → TT0 = F_X3_startOf_68 a0 a1 a2 y2 y1 I J R x4_68 → lv_has ls 5 [(4, .int x4_68)] → W p l e (rmD 2) s m args below meth c H locs 0 0 Q (F0 m 68 ls []) := by
    intro H locs ls x4_68 hH hv hl
    unfold F_X3_startOf_68 at hv
    refine lv_iload hx hb dX3_startOf_68 (lv_at hl 0 rfl) ?_
    refine lv_goto (tgt := 77) hx hb dX3_startOf_70 (by decide) ?_
    exact L_77 _ _ _ x4_68 hH hv (lv_sub hl [] rfl)
  have L_41 : ∀ (H : Heap) (locs : List Loc) (ls : Array Slot) (x3_41 : Int32), Hp D cy L C b0 s s.heap I J R H locs → TT0 = F_X3_startOf_41 a0 a1 a2 y2 y1 I J R x3_41 → Rg x3_41 (0) (1) → lv_has ls 5 [(0, .ref a0), (1, .ref a1), (2, .ref a2), (3, .int x3_41)] → W p l e (rmD 2) s m args below meth c H locs 0 0 Q (F0 m 41 ls []) := by
    intro H locs ls x3_41 hH hv r3_41 hl
    unfold F_X3_startOf_41 at hv
    refine lv_aload_n hx hb dX3_startOf_41 rfl (lv_at hl 0 rfl) ?_
    obtain ⟨b3, mb3, vb3, kb3⟩ := rf_3_0 oR m0 k0
    replace hv := fnR hv vb3
    refine gf_3_0 vb3 hx hb hts hown hH m0 k0 rfl kf_X3_26 dX3_startOf_42 ?_
    refine lv_aload_n hx hb dX3_startOf_45 rfl (lv_at hl 2 rfl) ?_
    refine gf_5_1 hx hb hts hown hH m2 k2 rfl kf_X3_70 dX3_startOf_46 ?_
    refine lv_topi (fun y4 ey4 => ?_)
    have ry4 : Rg y4 (0) (6) := by rw [ey4]; exact rf_5_1 oI m2 k2
    replace hv := fnS hv ey4
    refine lv_aload_n hx hb dX3_startOf_49 rfl (lv_at hl 1 rfl) ?_
    refine gf_5_1 hx hb hts hown hH m1 k1 rfl kf_X3_70 dX3_startOf_50 ?_
    refine lv_topi (fun y5 ey5 => ?_)
    have ry5 : Rg y5 (0) (6) := by rw [ey5]; exact rf_5_1 oI m1 k1
    replace hv := fnS hv ey5
    refine ca_X3_73 hx hb hml hown hts hH (c_X6_costBetween oI oR mb3 kb3 ry4 ry5) hl.1 mb3 kb3 rfl (by decide) (Nat.le_of_ble_eq_true rfl) ⟨Nat.zero_le _, Nat.zero_le _⟩ dX3_startOf_53 (fun y6 I6 J6 R6 H locs hp hH => ?_)
    obtain ⟨eI6, eJ6, eR6, hf6⟩ := hp
    obtain rfl : I = I6 := eI6.symm
    obtain rfl : J = J6 := eJ6.symm
    obtain rfl : R = R6 := eR6.symm
    replace hv := fnS hv hf6.symm
    refine lv_istore (lv' := [(4, .int y6), (0, .ref a0), (1, .ref a1), (2, .ref a2), (3, .int x3_41)]) hx hb dX3_startOf_56 hl (by decide) rfl (fun ls hl => ?_)
    refine lv_iload hx hb dX3_startOf_58 (lv_at hl 0 rfl) ?_
    refine lv_iconst (v := (-1)) hx hb dX3_startOf_60 (by decide) ?_
    refine lv_icmp_eq (tgt := 68) hx hb dX3_startOf_61 (by decide) (fun q7 => ?_) (fun q7 => ?_)
    · replace hv := fnP hv q7
      have r8 : Rg y6 (-1) (-1) := Rg_both (Rg_any y6) (Rg_eqv q7 (Rg_c (x := (-1)) (a := (-1)) (b := (-1)) (by decide))) (by decide)
      exact L_68 _ _ _ y6 hH hv (lv_sub hl [0] rfl)
    replace hv := fnN hv q7
    refine lv_iload_n hx hb dX3_startOf_64 rfl (lv_at hl 4 rfl) ?_
    refine lv_if_eq (tgt := 73) hx hb dX3_startOf_65 (by decide) (fun q9 => ?_) (fun q9 => ?_)
    rotate_left
    · replace hv := fnN hv q9
      have r12 : Rg x3_41 (1) (1) := Rg_nelo r3_41 (Rg_ne q9) (Rg_c (x := 0) (a := (0)) (b := (0)) (by decide)) (by decide)
      exact L_68 _ _ _ y6 hH hv (lv_sub hl [0] rfl)
    replace hv := fnP hv q9
    have r10 : Rg x3_41 (0) (0) := Rg_both r3_41 (Rg_eqv q9 (Rg_c (x := 0) (a := (0)) (b := (0)) (by decide))) (by decide)
    refine lv_iload hx hb dX3_startOf_73 (lv_at hl 0 rfl) ?_
    refine lv_iconst (v := 2) hx hb dX3_startOf_75 (by decide) ?_
    refine lv_iadd hx hb dX3_startOf_76 ?_
    refine lv_topi (fun y11 ey11 => ?_)
    replace hv := fnS hv ey11
    exact L_77 _ _ _ y11 hH hv (lv_sub hl [] rfl)
  have L_16 : ∀ (H : Heap) (locs : List Loc) (ls : Array Slot) (xs0_16 : Int32), Hp D cy L C b0 s s.heap I J R H locs → TT0 = F_X3_startOf_16 a0 a1 a2 y2 y1 I J R xs0_16 → Rg xs0_16 (0) (1) → lv_has ls 5 [(0, .ref a0), (1, .ref a1), (2, .ref a2)] → W p l e (rmD 2) s m args below meth c H locs 0 0 Q (F0 m 16 ls [.int xs0_16]) := by
    intro H locs ls xs0_16 hH hv rs0_16 hl
    unfold F_X3_startOf_16 at hv
    refine lv_istore_n (lv' := [(3, .int xs0_16), (0, .ref a0), (1, .ref a1), (2, .ref a2)]) hx hb dX3_startOf_16 rfl hl (by decide) rfl (fun ls hl => ?_)
    refine lv_iload_n hx hb dX3_startOf_17 rfl (lv_at hl 0 rfl) ?_
    refine lv_if_ne (tgt := 41) hx hb dX3_startOf_18 (by decide) (fun q13 => ?_) (fun q13 => ?_)
    · replace hv := fnN hv q13
      have r14 : Rg xs0_16 (1) (1) := Rg_nelo rs0_16 (Rg_ne q13) (Rg_c (x := 0) (a := (0)) (b := (0)) (by decide)) (by decide)
      exact L_41 _ _ _ xs0_16 hH hv (Rg_w r14 (by decide)) (lv_sub hl [1, 2, 3, 0] rfl)
    replace hv := fnP hv q13
    have r15 : Rg xs0_16 (0) (0) := Rg_both rs0_16 (Rg_eqv q13 (Rg_c (x := 0) (a := (0)) (b := (0)) (by decide))) (by decide)
    refine lv_aload_n hx hb dX3_startOf_21 rfl (lv_at hl 1 rfl) ?_
    obtain ⟨b16, mb16, vb16, kb16⟩ := rf_3_1 oR m0 k0
    replace hv := fnR hv vb16
    refine gf_3_1 vb16 hx hb hts hown hH m0 k0 rfl kf_X3_30 dX3_startOf_22 ?_
    refine lv_aload_n hx hb dX3_startOf_25 rfl (lv_at hl 2 rfl) ?_
    refine gf_5_0 hx hb hts hown hH m1 k1 rfl kf_X3_59 dX3_startOf_26 ?_
    refine lv_topi (fun y17 ey17 => ?_)
    obtain rfl : y1 = y17 := ey1.trans ey17.symm
    refine lv_aload_n hx hb dX3_startOf_29 rfl (lv_at hl 3 rfl) ?_
    refine gf_5_0 hx hb hts hown hH m2 k2 rfl kf_X3_59 dX3_startOf_30 ?_
    refine lv_topi (fun y18 ey18 => ?_)
    obtain rfl : y2 = y18 := ey2.trans ey18.symm
    refine ca_X3_64 hx hb hml hown hts hH (c_X0_has oI oR mb16 kb16) hl.1 mb16 kb16 rfl (by decide) (Nat.le_of_ble_eq_true rfl) ⟨Nat.zero_le _, Nat.zero_le _⟩ dX3_startOf_33 (fun y19 I19 J19 R19 H locs hp hH => ?_)
    obtain ⟨eI19, eJ19, eR19, ry19, hf19⟩ := hp
    obtain rfl : I = I19 := eI19.symm
    obtain rfl : J = J19 := eJ19.symm
    obtain rfl : R = R19 := eR19.symm
    replace hv := fnS hv hf19.symm
    refine lv_if_ne (tgt := 41) hx hb dX3_startOf_36 (by decide) (fun q20 => ?_) (fun q20 => ?_)
    · replace hv := fnN hv q20
      have r21 : Rg y19 (1) (1) := Rg_nelo ry19 (Rg_ne q20) (Rg_c (x := 0) (a := (0)) (b := (0)) (by decide)) (by decide)
      exact L_41 _ _ _ xs0_16 hH hv (Rg_w r15 (by decide)) (lv_sub hl [1, 2, 3, 0] rfl)
    replace hv := fnP hv q20
    have r22 : Rg y19 (0) (0) := Rg_both ry19 (Rg_eqv q20 (Rg_c (x := 0) (a := (0)) (b := (0)) (by decide))) (by decide)
    refine lv_iconst (v := (-1)) hx hb dX3_startOf_39 (by decide) ?_
    exact ret ((-1)) _ _ _ _ _ _ _ dX3_startOf_40 hH ⟨rfl, rfl, rfl, (hT.symm.trans hv)⟩
  refine lv_icmp_ne (tgt := 15) hx hb dX3_startOf_8 (by decide) (fun q23 => ?_) (fun q23 => ?_)
  · replace hv := fnN hv q23
    refine lv_iconst (v := 0) hx hb dX3_startOf_15 (by decide) ?_
    exact L_16 _ _ _ 0 hH hv (Rg_w (Rg_c (x := 0) (a := (0)) (b := (0)) (by decide)) (by decide)) (lv_sub hl [0, 1, 2] rfl)
  replace hv := fnP hv q23
  refine lv_iconst (v := 1) hx hb dX3_startOf_11 (by decide) ?_
  refine lv_goto (tgt := 16) hx hb dX3_startOf_12 (by decide) ?_
  exact L_16 _ _ _ 1 hH hv (Rg_w (Rg_c (x := 1) (a := (1)) (b := (1)) (by decide)) (by decide)) (lv_sub hl [0, 1, 2] rfl)
noncomputable def F_X3_settle (a0 : Nat) (x1 : Int32) (I : hI) (J : hJ) (R : hR) : Int32 × hU :=
  nm (I a0 4) fun y1 => (if x1 < y1 then nm (u2 I a0 4 x1) fun I5 => nm ((R a0 3).getD 0) fun b7 => nm ((R a0 6).getD 0) fun b8 => nm (cp2 I5 b7 b8 (Int32.toNatClampNeg (0 : Int32)) (Int32.toNatClampNeg (0 : Int32)) (Int32.toNatClampNeg (4 : Int32))) fun I9 => ((1 : Int32), (I9, J, R)) else ((0 : Int32), (I, J, R)))
def ms_X3_settle : List Nat := [196, 2816]
set_option maxHeartbeats 4000000 in
set_option maxRecDepth 100000 in
theorem c_X3_settle {l : Launch} {D : va_G} {cy : Nat → ClassId} {L : List Nat} {C : Nat → Nat} {b0 : Nat} {I : hI} {J : hJ} {R : hR} {a0 : Nat} {x1 : Int32} (oI : OkI L C I) (oR : OkR L C R) (m0 : a0 ∈ L) (k0 : C a0 = 3) : CI l yX3_settle cX3_settle 2 .boolean 1 D cy L C b0 [.ref a0, .int x1] (I, J, R) (fun r v => Ps L C ms_X3_settle (I, J, R) v ∧ v.2.1 = J ∧ v.2.2 = R ∧ Rg r (0) (1) ∧ F_X3_settle a0 x1 I J R = (r, v)) := by
  refine CI.mkZ (plainFor_of_name (by decide)) (Nat.le_of_ble_eq_true rfl) ?_
  intro p e s m args below meth c ls Q hF ret hH hl
  obtain ⟨hx, hb, -, hml, hown, hts, -⟩ := hF
  have hl : lv_has ls 2 [(0, .ref a0), (1, .int x1)] := hl
  have hH : Hp D cy L C b0 s s.heap I J R s.heap [] := hH
  have sm : Sm C ms_X3_settle (I, J, R) (I, J, R) := Sm.rf
  obtain ⟨TT0, hT⟩ : ∃ TT0, TT0 = F_X3_settle a0 x1 I J R := ⟨_, rfl⟩
  have hv := hT
  unfold F_X3_settle at hv
  refine lv_iload_n hx hb dX3_settle_0 rfl (lv_at hl 1 rfl) ?_
  refine lv_aload_n hx hb dX3_settle_1 rfl (lv_at hl 0 rfl) ?_
  refine gf_3_4 hx hb hts hown hH m0 k0 rfl kf_X3_16 dX3_settle_2 ?_
  refine lv_topi (fun y1 ey1 => ?_)
  replace hv := fnS hv ey1
  refine lv_icmp_lt (tgt := 10) hx hb dX3_settle_5 (by decide) (fun q2 => ?_) (fun q2 => ?_)
  rotate_left
  · replace hv := fnN hv q2
    refine lv_iconst (v := 0) hx hb dX3_settle_8 (by decide) ?_
    exact ret (0) _ _ _ _ _ _ _ dX3_settle_9 hH (Rg_01 (Rg_w (Rg_c (x := 0) (a := (0)) (b := (0)) (by decide)) (by decide))) ⟨⟨oI, oR, sm⟩, rfl, rfl, (Rg_w (Rg_c (x := 0) (a := (0)) (b := (0)) (by decide)) (by decide)), (hT.symm.trans hv)⟩
  replace hv := fnP hv q2
  have r3 : Rg x1 (-2147483648) (2147483646) := Rg_ult (Rg_any x1) (Rg_lt q2) (Rg_any y1) (by decide)
  have r4 : Rg y1 (-2147483647) (2147483647) := Rg_llt (Rg_any y1) (Rg_lt q2) (Rg_any x1) (by decide)
  refine lv_aload_n hx hb dX3_settle_10 rfl (lv_at hl 0 rfl) ?_
  refine lv_iload_n hx hb dX3_settle_11 rfl (lv_at hl 1 rfl) ?_
  refine pf_3_4 hx hb hts hown hH m0 k0 rfl kf_X3_16 dX3_settle_12 (fun I5 H locs eI5 hH => ?_)
  replace hv := fnS hv eI5
  have oI : OkI L C I5 := by rw [eI5]; exact wf_3_4 oI k0 (Rg_w r3 (by decide))
  have sm : Sm C ms_X3_settle (I, J, R) (I5, J, R) := by rw [eI5]; exact sm.stI k0 (mC_obj (by decide) rfl)
  have f6 : x1 = I5 a0 4 := by rw [eI5, u2_at]
  refine lv_aload_n hx hb dX3_settle_15 rfl (lv_at hl 0 rfl) ?_
  obtain ⟨b7, mb7, vb7, kb7⟩ := rf_3_3 oR m0 k0
  replace hv := fnR hv vb7
  refine gf_3_3 vb7 hx hb hts hown hH m0 k0 rfl kf_X3_9 dX3_settle_16 ?_
  refine lv_iconst (v := 0) hx hb dX3_settle_19 (by decide) ?_
  refine lv_aload_n hx hb dX3_settle_20 rfl (lv_at hl 0 rfl) ?_
  obtain ⟨b8, mb8, vb8, kb8⟩ := rf_3_6 oR m0 k0
  replace hv := fnR hv vb8
  refine gf_3_6 vb8 hx hb hts hown hH m0 k0 rfl kf_X3_23 dX3_settle_21 ?_
  refine lv_iconst (v := 0) hx hb dX3_settle_24 (by decide) ?_
  refine lv_iconst (v := 4) hx hb dX3_settle_25 (by decide) ?_
  refine hCpy (r0 := 43) (r1 := 44) hx hb (hml.trans hl.1.symm) hown hts km_X3_105 hH mb7 kb7 rfl mb8 kb8 rfl (by decide) (by decide) (by decide) (by decide) (by decide) (by decide) (Nat.le_of_ble_eq_true rfl) dX3_settle_26 (fun I9 H locs eI9 hH => ?_)
  replace hv := fnS hv eI9
  have oI : OkI L C I9 := by rw [eI9]; exact oI.cp mb7 kb7 kb8 rfl (by decide) (fun k => ⟨rfl, rfl, rfl, rfl⟩)
  have sm : Sm C ms_X3_settle (I, J, R) (I9, J, R) := by rw [eI9]; exact sm.cp kb8 (by decide) rfl
  refine lv_iconst (v := 1) hx hb dX3_settle_29 (by decide) ?_
  exact ret (1) _ _ _ _ _ _ _ dX3_settle_30 hH (Rg_01 (Rg_w (Rg_c (x := 1) (a := (1)) (b := (1)) (by decide)) (by decide))) ⟨⟨oI, oR, sm⟩, rfl, rfl, (Rg_w (Rg_c (x := 1) (a := (1)) (b := (1)) (by decide)) (by decide)), (hT.symm.trans hv)⟩
noncomputable def F_X3_assign_4 (a0 : Nat) (a1 : Nat) (a2 : Nat) (x3 : Int32) (x4 : Int32) (x5 : Int32) (I : hI) (J : hJ) (R : hR) : Int32 × hU :=
  nm (I a0 4) fun y1 => (if x5 < y1 then nm (I a2 2) fun y5 => (if x3 < y5 then default else nm (I a1 2) fun y7 => nm (F_J6_bitCount_0f7a4 x4) fun y8 => nm (y7 - y8) fun y9 => nm ((4 : Int32) * y9) fun y10 => nm (x5 + y10) fun y11 => nmU (F_X3_settle a0 y11 I J R) fun y12 I12 _ _ => (y12, (I12, J, R))) else ((0 : Int32), (I, J, R)))
def ms_X3_assign_4 : List Nat := [196, 2816]
set_option maxHeartbeats 4000000 in
set_option maxRecDepth 100000 in
theorem c_X3_assign_4 {l : Launch} {D : va_G} {cy : Nat → ClassId} {L : List Nat} {C : Nat → Nat} {b0 : Nat} {I : hI} {J : hJ} {R : hR} {a0 : Nat} {a1 : Nat} {a2 : Nat} {x3 : Int32} {x4 : Int32} {x5 : Int32} (oI : OkI L C I) (oR : OkR L C R) (m0 : a0 ∈ L) (k0 : C a0 = 3) (m1 : a1 ∈ L) (k1 : C a1 = 5) (m2 : a2 ∈ L) (k2 : C a2 = 5) (h3 : Rg x3 (4) (4)) : CI l yX3_assign cX3_assign 8 .boolean 2 D cy L C b0 [.ref a0, .ref a1, .ref a2, .int x3, .int x4, .int x5] (I, J, R) (fun r v => Ps L C ms_X3_assign_4 (I, J, R) v ∧ v.2.1 = J ∧ v.2.2 = R ∧ Rg r (0) (1) ∧ F_X3_assign_4 a0 a1 a2 x3 x4 x5 I J R = (r, v)) := by
  refine CI.mkZ (plainFor_of_name (by decide)) (Nat.le_of_ble_eq_true rfl) ?_
  intro p e s m args below meth c ls Q hF ret hH hl
  obtain ⟨hx, hb, -, hml, hown, hts, -⟩ := hF
  have hl : lv_has ls 8 [(0, .ref a0), (1, .ref a1), (2, .ref a2), (3, .int x3), (4, .int x4), (5, .int x5)] := hl
  have hH : Hp D cy L C b0 s s.heap I J R s.heap [] := hH
  have sm : Sm C ms_X3_assign_4 (I, J, R) (I, J, R) := Sm.rf
  obtain ⟨TT0, hT⟩ : ∃ TT0, TT0 = F_X3_assign_4 a0 a1 a2 x3 x4 x5 I J R := ⟨_, rfl⟩
  have hv := hT
  unfold F_X3_assign_4 at hv
  refine lv_iload hx hb dX3_assign_0 (lv_at hl 5 rfl) ?_
  refine lv_aload_n hx hb dX3_assign_2 rfl (lv_at hl 0 rfl) ?_
  refine gf_3_4 hx hb hts hown hH m0 k0 rfl kf_X3_16 dX3_assign_3 ?_
  refine lv_topi (fun y1 ey1 => ?_)
  replace hv := fnS hv ey1
  refine lv_icmp_lt (tgt := 11) hx hb dX3_assign_6 (by decide) (fun q2 => ?_) (fun q2 => ?_)
  rotate_left
  · replace hv := fnN hv q2
    refine lv_iconst (v := 0) hx hb dX3_assign_9 (by decide) ?_
    exact ret (0) _ _ _ _ _ _ _ dX3_assign_10 hH (Rg_01 (Rg_w (Rg_c (x := 0) (a := (0)) (b := (0)) (by decide)) (by decide))) ⟨⟨oI, oR, sm⟩, rfl, rfl, (Rg_w (Rg_c (x := 0) (a := (0)) (b := (0)) (by decide)) (by decide)), (hT.symm.trans hv)⟩
  replace hv := fnP hv q2
  have r3 : Rg x5 (-2147483648) (2147483646) := Rg_ult (Rg_any x5) (Rg_lt q2) (Rg_any y1) (by decide)
  have r4 : Rg y1 (-2147483647) (2147483647) := Rg_llt (Rg_any y1) (Rg_lt q2) (Rg_any x5) (by decide)
  refine lv_iload_n hx hb dX3_assign_11 rfl (lv_at hl 3 rfl) ?_
  refine lv_aload_n hx hb dX3_assign_12 rfl (lv_at hl 2 rfl) ?_
  refine gf_5_2 hx hb hts hown hH m2 k2 rfl kf_X3_79 dX3_assign_13 ?_
  refine lv_topi (fun y5 ey5 => ?_)
  have ry5 : Rg y5 (0) (4) := by rw [ey5]; exact rf_5_2 oI m2 k2
  replace hv := fnS hv ey5
  refine lv_icmp_lt (tgt := 39) hx hb dX3_assign_16 (by decide) (fun q6 => ?_) (fun q6 => ?_)
  · replace hv := fnP hv q6
    exact Rg_no (Rg_ult h3 (Rg_lt q6) ry5 (b' := (3)) (by decide)) (by decide)
  replace hv := fnN hv q6
  refine lv_aload_n hx hb dX3_assign_19 rfl (lv_at hl 0 rfl) ?_
  refine lv_iload hx hb dX3_assign_20 (lv_at hl 5 rfl) ?_
  refine lv_iconst (v := 4) hx hb dX3_assign_22 (by decide) ?_
  refine lv_aload_n hx hb dX3_assign_23 rfl (lv_at hl 1 rfl) ?_
  refine gf_5_2 hx hb hts hown hH m1 k1 rfl kf_X3_79 dX3_assign_24 ?_
  refine lv_topi (fun y7 ey7 => ?_)
  have ry7 : Rg y7 (0) (4) := by rw [ey7]; exact rf_5_2 oI m1 k1
  replace hv := fnS hv ey7
  refine lv_iload hx hb dX3_assign_27 (lv_at hl 4 rfl) ?_
  refine ca_X3_82 hx hb hml hown hts hH (c_J6_bitCount_0f7a4 ) hl.1 (by decide) (Nat.le_of_ble_eq_true rfl) ⟨Nat.zero_le _, Nat.zero_le _⟩ dX3_assign_29 (fun y8 I8 J8 R8 H locs hp hH => ?_)
  obtain ⟨eI8, eJ8, eR8, hf8⟩ := hp
  obtain rfl : I = I8 := eI8.symm
  obtain rfl : J = J8 := eJ8.symm
  obtain rfl : R = R8 := eR8.symm
  replace hv := fnS hv hf8.symm
  refine lv_isub hx hb dX3_assign_32 ?_
  refine lv_topi (fun y9 ey9 => ?_)
  replace hv := fnS hv ey9
  refine lv_imul hx hb dX3_assign_33 ?_
  refine lv_topi (fun y10 ey10 => ?_)
  replace hv := fnS hv ey10
  refine lv_iadd hx hb dX3_assign_34 ?_
  refine lv_topi (fun y11 ey11 => ?_)
  replace hv := fnS hv ey11
  refine ca_X3_88 hx hb hml hown hts hH (c_X3_settle oI oR m0 k0) hl.1 m0 k0 rfl (by decide) (Nat.le_of_ble_eq_true rfl) ⟨Nat.zero_le _, Nat.zero_le _⟩ dX3_assign_35 (fun y12 I12 J12 R12 H locs hp hH => ?_)
  obtain ⟨⟨oI, -, sc12⟩, eJ12, eR12, ry12, hf12⟩ := hp
  obtain rfl : J = J12 := eJ12.symm
  obtain rfl : R = R12 := eR12.symm
  replace hv := fnC hv hf12
  have sm : Sm C ms_X3_assign_4 (I, J, R) (I12, J, R) := sm.tr sc12 rfl
  exact ret (y12) _ _ _ _ _ _ _ dX3_assign_38 hH (Rg_01 (Rg_w ry12 (by decide))) ⟨⟨oI, oR, sm⟩, rfl, rfl, ry12, (hT.symm.trans hv)⟩
noncomputable def F_X3_take_3_49 (a0 : Nat) (a1 : Nat) (a2 : Nat) (x3 : Int32) (x4 : Int32) (x5 : Int32) (x6 : Int32) (y6 : Int32) (y3 : Int32) (y5 : Int32) (b1 : Nat) (b2 : Nat) (b4 : Nat) (I_49 : hI) (J : hJ) (R : hR) (xs0_49 : Int32) : Int32 × hU :=
  nm (x3 + (1 : Int32)) fun y7 => nm ((1 : Int32) <<< (x4 &&& 31)) fun y8 => nm (x5 ||| y8) fun y9 => nm (x6 + y6) fun y10 => nm (y10 + xs0_49) fun y11 => nmU (F_X3_assign_4 a0 a1 a2 y7 y9 y11 I_49 J R) fun y12 I12 _ _ => (y12, (I12, J, R))
noncomputable def F_X3_take_3 (a0 : Nat) (a1 : Nat) (a2 : Nat) (x3 : Int32) (x4 : Int32) (x5 : Int32) (x6 : Int32) (I : hI) (J : hJ) (R : hR) : Int32 × hU :=
  nm ((R a0 0).getD 0) fun b1 => nm ((R a1 3).getD 0) fun b2 => nm (I b2 (Int32.toNatClampNeg x4)) fun y3 => nm ((R a2 3).getD 0) fun b4 => nm (I b4 (Int32.toNatClampNeg x3)) fun y5 => nm (F_X6_costBetween b1 y3 y5 I J R) fun y6 => (if y6 = (-1 : Int32) then ((0 : Int32), (I, J, R)) else nm ((R a0 3).getD 0) fun b14 => nm (u2 I b14 (Int32.toNatClampNeg x3) x4) fun I15 => (if x4 = x3 then F_X3_take_3_49 a0 a1 a2 x3 x4 x5 x6 y6 y3 y5 b1 b2 b4 I15 J R (0 : Int32) else F_X3_take_3_49 a0 a1 a2 x3 x4 x5 x6 y6 y3 y5 b1 b2 b4 I15 J R (1 : Int32)))
def ms_X3_take_3 : List Nat := [196, 2752, 2816]
set_option maxHeartbeats 4000000 in
set_option maxRecDepth 100000 in
theorem c_X3_take_3 {l : Launch} {D : va_G} {cy : Nat → ClassId} {L : List Nat} {C : Nat → Nat} {b0 : Nat} {I : hI} {J : hJ} {R : hR} {a0 : Nat} {a1 : Nat} {a2 : Nat} {x3 : Int32} {x4 : Int32} {x5 : Int32} {x6 : Int32} (oI : OkI L C I) (oR : OkR L C R) (m0 : a0 ∈ L) (k0 : C a0 = 3) (m1 : a1 ∈ L) (k1 : C a1 = 5) (m2 : a2 ∈ L) (k2 : C a2 = 5) (h3 : Rg x3 (3) (3)) (h4 : Rg x4 (0) (3)) : CI l yX3_take cX3_take 9 .boolean 3 D cy L C b0 [.ref a0, .ref a1, .ref a2, .int x3, .int x4, .int x5, .int x6] (I, J, R) (fun r v => Ps L C ms_X3_take_3 (I, J, R) v ∧ v.2.1 = J ∧ v.2.2 = R ∧ Rg r (0) (1) ∧ F_X3_take_3 a0 a1 a2 x3 x4 x5 x6 I J R = (r, v)) := by
  refine CI.mkZ (plainFor_of_name (by decide)) (Nat.le_of_ble_eq_true rfl) ?_
  intro p e s m args below meth c ls Q hF ret hH hl
  obtain ⟨hx, hb, -, hml, hown, hts, -⟩ := hF
  have hl : lv_has ls 9 [(0, .ref a0), (1, .ref a1), (2, .ref a2), (3, .int x3), (4, .int x4), (5, .int x5), (6, .int x6)] := hl
  have hH : Hp D cy L C b0 s s.heap I J R s.heap [] := hH
  have sm : Sm C ms_X3_take_3 (I, J, R) (I, J, R) := Sm.rf
  obtain ⟨TT0, hT⟩ : ∃ TT0, TT0 = F_X3_take_3 a0 a1 a2 x3 x4 x5 x6 I J R := ⟨_, rfl⟩
  have hv := hT
  unfold F_X3_take_3 at hv
  refine lv_aload_n hx hb dX3_take_0 rfl (lv_at hl 0 rfl) ?_
  obtain ⟨b1, mb1, vb1, kb1⟩ := rf_3_0 oR m0 k0
  replace hv := fnR hv vb1
  refine gf_3_0 vb1 hx hb hts hown hH m0 k0 rfl kf_X3_26 dX3_take_1 ?_
  refine lv_aload_n hx hb dX3_take_4 rfl (lv_at hl 1 rfl) ?_
  obtain ⟨b2, mb2, vb2, kb2⟩ := rf_5_3 oR m1 k1
  replace hv := fnR hv vb2
  refine gf_5_3 vb2 hx hb hts hown hH m1 k1 rfl kf_X3_102 dX3_take_5 ?_
  refine lv_iload hx hb dX3_take_8 (lv_at hl 4 rfl) ?_
  refine ld_54 hx hb hH mb2 kb2 (Rg_in h4 (by decide)) dX3_take_10 ?_
  refine lv_topi (fun y3 ey3 => ?_)
  have ry3 : Rg y3 (0) (6) := by rw [ey3]; exact rd_54 oI mb2 kb2 (Rg_in h4 (by decide))
  replace hv := fnS hv ey3
  refine lv_aload_n hx hb dX3_take_11 rfl (lv_at hl 2 rfl) ?_
  obtain ⟨b4, mb4, vb4, kb4⟩ := rf_5_3 oR m2 k2
  replace hv := fnR hv vb4
  refine gf_5_3 vb4 hx hb hts hown hH m2 k2 rfl kf_X3_102 dX3_take_12 ?_
  refine lv_iload_n hx hb dX3_take_15 rfl (lv_at hl 3 rfl) ?_
  refine ld_54 hx hb hH mb4 kb4 (Rg_in h3 (by decide)) dX3_take_16 ?_
  refine lv_topi (fun y5 ey5 => ?_)
  have ry5 : Rg y5 (0) (6) := by rw [ey5]; exact rd_54 oI mb4 kb4 (Rg_in h3 (by decide))
  replace hv := fnS hv ey5
  refine ca_X3_73 hx hb hml hown hts hH (c_X6_costBetween oI oR mb1 kb1 ry3 ry5) hl.1 mb1 kb1 rfl (by decide) (Nat.le_of_ble_eq_true rfl) ⟨Nat.zero_le _, Nat.zero_le _⟩ dX3_take_17 (fun y6 I6 J6 R6 H locs hp hH => ?_)
  obtain ⟨eI6, eJ6, eR6, hf6⟩ := hp
  obtain rfl : I = I6 := eI6.symm
  obtain rfl : J = J6 := eJ6.symm
  obtain rfl : R = R6 := eR6.symm
  replace hv := fnS hv hf6.symm
  refine lv_istore (lv' := [(7, .int y6), (0, .ref a0), (1, .ref a1), (2, .ref a2), (3, .int x3), (4, .int x4), (5, .int x5), (6, .int x6)]) hx hb dX3_take_20 hl (by decide) rfl (fun ls hl => ?_)
  refine lv_iload hx hb dX3_take_22 (lv_at hl 0 rfl) ?_
  refine lv_iconst (v := (-1)) hx hb dX3_take_24 (by decide) ?_
  have L_49 : ∀ (I_49 : hI) (H : Heap) (locs : List Loc) (ls : Array Slot) (xs0_49 : Int32), Hp D cy L C b0 s s.heap I_49 J R H locs → TT0 = F_X3_take_3_49 a0 a1 a2 x3 x4 x5 x6 y6 y3 y5 b1 b2 b4 I_49 J R xs0_49 → OkI L C I_49 → Sm C ms_X3_take_3 (I, J, R) (I_49, J, R) → Rg xs0_49 (0) (1) → Rg x3 (3) (3) → Rg x4 (0) (3) → lv_has ls 9 [(0, .ref a0), (1, .ref a1), (2, .ref a2), (3, .int x3), (4, .int x4), (5, .int x5), (6, .int x6), (7, .int y6)] → W p l e (rmD 3) s m args below meth c H locs 0 0 Q (F0 m 49 ls [.int xs0_49]) := by
    intro I_49 H locs ls xs0_49 hH hv oI sm rs0_49 r3_49 r4_49 hl
    unfold F_X3_take_3_49 at hv
    refine lv_istore (lv' := [(8, .int xs0_49), (0, .ref a0), (1, .ref a1), (2, .ref a2), (3, .int x3), (4, .int x4), (5, .int x5), (6, .int x6), (7, .int y6)]) hx hb dX3_take_49 hl (by decide) rfl (fun ls hl => ?_)
    refine lv_aload_n hx hb dX3_take_51 rfl (lv_at hl 1 rfl) ?_
    refine lv_aload_n hx hb dX3_take_52 rfl (lv_at hl 2 rfl) ?_
    refine lv_aload_n hx hb dX3_take_53 rfl (lv_at hl 3 rfl) ?_
    refine lv_iload_n hx hb dX3_take_54 rfl (lv_at hl 4 rfl) ?_
    refine lv_iconst (v := 1) hx hb dX3_take_55 (by decide) ?_
    refine lv_iadd hx hb dX3_take_56 ?_
    refine lv_topi (fun y7 ey7 => ?_)
    replace hv := fnS hv ey7
    obtain ⟨ty7, ry7⟩ := Rg_addx (a' := (4)) (b' := (4)) (rfl : x3.toInt = _) (by decide : Int32.toInt 1 = 1) r3_49 (Rg_c (x := 1) (a := (1)) (b := (1)) (by decide)) (by decide)
    rw [← ey7] at ty7 ry7
    refine lv_iload hx hb dX3_take_57 (lv_at hl 6 rfl) ?_
    refine lv_iconst (v := 1) hx hb dX3_take_59 (by decide) ?_
    refine lv_iload hx hb dX3_take_60 (lv_at hl 5 rfl) ?_
    refine lv_ishl hx hb dX3_take_62 ?_
    refine lv_topi (fun y8 ey8 => ?_)
    replace hv := fnS hv ey8
    refine lv_ior hx hb dX3_take_63 ?_
    refine lv_topi (fun y9 ey9 => ?_)
    replace hv := fnS hv ey9
    refine lv_iload hx hb dX3_take_64 (lv_at hl 7 rfl) ?_
    refine lv_iload hx hb dX3_take_66 (lv_at hl 8 rfl) ?_
    refine lv_iadd hx hb dX3_take_68 ?_
    refine lv_topi (fun y10 ey10 => ?_)
    replace hv := fnS hv ey10
    refine lv_iload hx hb dX3_take_69 (lv_at hl 0 rfl) ?_
    refine lv_iadd hx hb dX3_take_71 ?_
    refine lv_topi (fun y11 ey11 => ?_)
    replace hv := fnS hv ey11
    refine ca_X3_51 hx hb hml hown hts hH (c_X3_assign_4 oI oR m0 k0 m1 k1 m2 k2 ry7) hl.1 m0 k0 rfl (by decide) (Nat.le_of_ble_eq_true rfl) ⟨Nat.zero_le _, Nat.zero_le _⟩ dX3_take_72 (fun y12 I12 J12 R12 H locs hp hH => ?_)
    obtain ⟨⟨oI, -, sc12⟩, eJ12, eR12, ry12, hf12⟩ := hp
    obtain rfl : J = J12 := eJ12.symm
    obtain rfl : R = R12 := eR12.symm
    replace hv := fnC hv hf12
    have sm : Sm C ms_X3_take_3 (I, J, R) (I12, J, R) := sm.tr sc12 rfl
    exact ret (y12) _ _ _ _ _ _ _ dX3_take_75 hH (Rg_01 (Rg_w ry12 (by decide))) ⟨⟨oI, oR, sm⟩, rfl, rfl, ry12, (hT.symm.trans hv)⟩
  refine lv_icmp_ne (tgt := 30) hx hb dX3_take_25 (by decide) (fun q13 => ?_) (fun q13 => ?_)
  rotate_left
  · replace hv := fnP hv q13
    have r18 : Rg y6 (-1) (-1) := Rg_both (Rg_any y6) (Rg_eqv q13 (Rg_c (x := (-1)) (a := (-1)) (b := (-1)) (by decide))) (by decide)
    refine lv_iconst (v := 0) hx hb dX3_take_28 (by decide) ?_
    exact ret (0) _ _ _ _ _ _ _ dX3_take_29 hH (Rg_01 (Rg_w (Rg_c (x := 0) (a := (0)) (b := (0)) (by decide)) (by decide))) ⟨⟨oI, oR, sm⟩, rfl, rfl, (Rg_w (Rg_c (x := 0) (a := (0)) (b := (0)) (by decide)) (by decide)), (hT.symm.trans hv)⟩
  replace hv := fnN hv q13
  refine lv_aload_n hx hb dX3_take_30 rfl (lv_at hl 1 rfl) ?_
  obtain ⟨b14, mb14, vb14, kb14⟩ := rf_3_3 oR m0 k0
  replace hv := fnR hv vb14
  refine gf_3_3 vb14 hx hb hts hown hH m0 k0 rfl kf_X3_9 dX3_take_31 ?_
  refine lv_iload_n hx hb dX3_take_34 rfl (lv_at hl 4 rfl) ?_
  refine lv_iload hx hb dX3_take_35 (lv_at hl 5 rfl) ?_
  refine st_43 hx hb hH mb14 kb14 (Rg_in h3 (by decide)) dX3_take_37 (fun I15 H locs eI15 hH => ?_)
  replace hv := fnS hv eI15
  have oI : OkI L C I15 := by rw [eI15]; exact wr_43 oI kb14 (Rg_w h4 (by decide)) (Or.inl (Rg_w (a' := (0)) (b' := (3)) h4 (by decide)).2)
  have sm : Sm C ms_X3_take_3 (I, J, R) (I15, J, R) := by rw [eI15]; exact sm.stI kb14 (mC_arr (by decide) rfl)
  refine lv_iload hx hb dX3_take_38 (lv_at hl 5 rfl) ?_
  refine lv_iload_n hx hb dX3_take_40 rfl (lv_at hl 4 rfl) ?_
  refine lv_icmp_ne (tgt := 48) hx hb dX3_take_41 (by decide) (fun q16 => ?_) (fun q16 => ?_)
  · replace hv := fnN hv q16
    refine lv_iconst (v := 1) hx hb dX3_take_48 (by decide) ?_
    exact L_49 I15 _ _ _ 1 hH hv oI sm (Rg_w (Rg_c (x := 1) (a := (1)) (b := (1)) (by decide)) (by decide)) h3 h4 (lv_sub hl [1, 2, 3, 4, 5, 6, 7, 0] rfl)
  replace hv := fnP hv q16
  have r17 : Rg x4 (3) (3) := Rg_both h4 (Rg_eqv q16 h3) (by decide)
  refine lv_iconst (v := 0) hx hb dX3_take_44 (by decide) ?_
  refine lv_goto (tgt := 49) hx hb dX3_take_45 (by decide) ?_
  exact L_49 I15 _ _ _ 0 hH hv oI sm (Rg_w (Rg_c (x := 0) (a := (0)) (b := (0)) (by decide)) (by decide)) h3 (Rg_w r17 (by decide)) (lv_sub hl [1, 2, 3, 4, 5, 6, 7, 0] rfl)
noncomputable def F_X3_assign_3_145 (a0 : Nat) (a1 : Nat) (a2 : Nat) (x3 : Int32) (x4 : Int32) (x5 : Int32) (y1 : Int32) (I_145 : hI) (J : hJ) (R : hR) (x6_145 : Int32) : Int32 × hU :=
  (x6_145, (I_145, J, R))
noncomputable def F_X3_assign_3_143 (a0 : Nat) (a1 : Nat) (a2 : Nat) (x3 : Int32) (x4 : Int32) (x5 : Int32) (y1 : Int32) (I_143 : hI) (J : hJ) (R : hR) (xs0_143 : Int32) : Int32 × hU :=
  F_X3_assign_3_145 a0 a1 a2 x3 x4 x5 y1 I_143 J R xs0_143
noncomputable def F_X3_assign_3_138 (a0 : Nat) (a1 : Nat) (a2 : Nat) (x3 : Int32) (x4 : Int32) (x5 : Int32) (y1 : Int32) (I_138 : hI) (J : hJ) (R : hR) : Int32 × hU :=
  F_X3_assign_3_143 a0 a1 a2 x3 x4 x5 y1 I_138 J R (1 : Int32)
noncomputable def F_X3_assign_3_83 (a0 : Nat) (a1 : Nat) (a2 : Nat) (x3 : Int32) (x4 : Int32) (x5 : Int32) (y1 : Int32) (x6_45 : Int32) (x7_45 : Int32) (k_45 : hI → hJ → hR → Int32 → Int32 → (Int32 × hU)) (I_83 : hI) (J : hJ) (R : hR) (x6_83 : Int32) : Int32 × hU :=
  nm (x7_45 + (1 : Int32)) fun y2 => k_45 I_83 J R x6_83 y2
noncomputable def B_X3_assign_3_45 (a0 : Nat) (a1 : Nat) (a2 : Nat) (x3 : Int32) (x4 : Int32) (x5 : Int32) (y1 : Int32) (k_45 : hI → hJ → hR → Int32 → Int32 → (Int32 × hU)) (I_45 : hI) (J : hJ) (R : hR) (x6_45 : Int32) (x7_45 : Int32) : Int32 × hU :=
  nm (I_45 a1 2) fun y3 => (if y3 ≤ x7_45 then nm ((R a0 2).getD 0) fun b5 => nm ((R b5 0).getD 0) fun b6 => nm ((R a2 3).getD 0) fun b7 => nm (I_45 b7 (Int32.toNatClampNeg x3)) fun y8 => nm (I_45 b6 (Int32.toNatClampNeg y8)) fun y9 => (if y9 = (0 : Int32) then F_X3_assign_3_145 a0 a1 a2 x3 x4 x5 y1 I_45 J R x6_45 else nm ((R a0 3).getD 0) fun b13 => nm (u2 I_45 b13 (Int32.toNatClampNeg x3) (9 : Int32)) fun I14 => nm (x3 + (1 : Int32)) fun y15 => nm (x5 + (7 : Int32)) fun y16 => nmU (F_X3_assign_4 a0 a1 a2 y15 x4 y16 I14 J R) fun y17 I17 _ _ => (if y17 = (0 : Int32) then (if x6_45 = (0 : Int32) then F_X3_assign_3_143 a0 a1 a2 x3 x4 x5 y1 I17 J R (0 : Int32) else F_X3_assign_3_138 a0 a1 a2 x3 x4 x5 y1 I17 J R) else F_X3_assign_3_138 a0 a1 a2 x3 x4 x5 y1 I17 J R)) else nm (x4 >>> (x7_45 &&& 31)) fun y26 => nm (y26 &&& (1 : Int32)) fun y27 => (if y27 = (0 : Int32) then nmU (F_X3_take_3 a0 a1 a2 x3 x7_45 x4 x5 I_45 J R) fun y31 I31 _ _ => (if y31 = (0 : Int32) then F_X3_assign_3_83 a0 a1 a2 x3 x4 x5 y1 x6_45 x7_45 k_45 I31 J R x6_45 else F_X3_assign_3_83 a0 a1 a2 x3 x4 x5 y1 x6_45 x7_45 k_45 I31 J R (1 : Int32)) else F_X3_assign_3_83 a0 a1 a2 x3 x4 x5 y1 x6_45 x7_45 k_45 I_45 J R x6_45))
noncomputable def F_X3_assign_3_45 (a0 : Nat) (a1 : Nat) (a2 : Nat) (x3 : Int32) (x4 : Int32) (x5 : Int32) (y1 : Int32) : Nat → hI → hJ → hR → Int32 → Int32 → (Int32 × hU) := fun n => Nat.rec (motive := fun _ => hI → hJ → hR → Int32 → Int32 → (Int32 × hU)) (fun _ _ _ _ _ => default) (fun _ k => B_X3_assign_3_45 a0 a1 a2 x3 x4 x5 y1 k) n
theorem F_X3_assign_3_45_s {a0 : Nat} {a1 : Nat} {a2 : Nat} {x3 : Int32} {x4 : Int32} {x5 : Int32} {y1 : Int32} {n : Nat} {I_45 : hI} {J : hJ} {R : hR} {x6_45 : Int32} {x7_45 : Int32} : F_X3_assign_3_45 a0 a1 a2 x3 x4 x5 y1 (n + 1)  I_45 J R x6_45 x7_45 = B_X3_assign_3_45 a0 a1 a2 x3 x4 x5 y1 (F_X3_assign_3_45 a0 a1 a2 x3 x4 x5 y1 n)  I_45 J R x6_45 x7_45 := rfl
noncomputable def F_X3_assign_3 (a0 : Nat) (a1 : Nat) (a2 : Nat) (x3 : Int32) (x4 : Int32) (x5 : Int32) (I : hI) (J : hJ) (R : hR) : Int32 × hU :=
  nm (I a0 4) fun y1 => (if x5 < y1 then nm (I a2 2) fun y38 => (if x3 < y38 then F_X3_assign_3_45 a0 a1 a2 x3 x4 x5 y1 ((4 - (0 : Int32).toInt).toNat + 1) I J R (0 : Int32) (0 : Int32) else nm (I a1 2) fun y42 => nm (F_J6_bitCount_0f7a4 x4) fun y43 => nm (y42 - y43) fun y44 => nm ((4 : Int32) * y44) fun y45 => nm (x5 + y45) fun y46 => nmU (F_X3_settle a0 y46 I J R) fun y47 I47 _ _ => (y47, (I47, J, R))) else ((0 : Int32), (I, J, R)))
def ms_X3_assign_3 : List Nat := [196, 2752, 2816]
set_option maxHeartbeats 4000000 in
set_option maxRecDepth 100000 in
theorem c_X3_assign_3 {l : Launch} {D : va_G} {cy : Nat → ClassId} {L : List Nat} {C : Nat → Nat} {b0 : Nat} {I : hI} {J : hJ} {R : hR} {a0 : Nat} {a1 : Nat} {a2 : Nat} {x3 : Int32} {x4 : Int32} {x5 : Int32} (oI : OkI L C I) (oR : OkR L C R) (m0 : a0 ∈ L) (k0 : C a0 = 3) (m1 : a1 ∈ L) (k1 : C a1 = 5) (m2 : a2 ∈ L) (k2 : C a2 = 5) (h3 : Rg x3 (3) (3)) : CI l yX3_assign cX3_assign 8 .boolean 4 D cy L C b0 [.ref a0, .ref a1, .ref a2, .int x3, .int x4, .int x5] (I, J, R) (fun r v => Ps L C ms_X3_assign_3 (I, J, R) v ∧ v.2.1 = J ∧ v.2.2 = R ∧ Rg r (0) (1) ∧ F_X3_assign_3 a0 a1 a2 x3 x4 x5 I J R = (r, v)) := by
  refine CI.mkZ (plainFor_of_name (by decide)) (Nat.le_of_ble_eq_true rfl) ?_
  intro p e s m args below meth c ls Q hF ret hH hl
  obtain ⟨hx, hb, -, hml, hown, hts, -⟩ := hF
  have hl : lv_has ls 8 [(0, .ref a0), (1, .ref a1), (2, .ref a2), (3, .int x3), (4, .int x4), (5, .int x5)] := hl
  have hH : Hp D cy L C b0 s s.heap I J R s.heap [] := hH
  have sm : Sm C ms_X3_assign_3 (I, J, R) (I, J, R) := Sm.rf
  obtain ⟨TT0, hT⟩ : ∃ TT0, TT0 = F_X3_assign_3 a0 a1 a2 x3 x4 x5 I J R := ⟨_, rfl⟩
  have hv := hT
  unfold F_X3_assign_3 at hv
  refine lv_iload hx hb dX3_assign_0 (lv_at hl 5 rfl) ?_
  refine lv_aload_n hx hb dX3_assign_2 rfl (lv_at hl 0 rfl) ?_
  refine gf_3_4 hx hb hts hown hH m0 k0 rfl kf_X3_16 dX3_assign_3 ?_
  refine lv_topi (fun y1 ey1 => ?_)
  replace hv := fnS hv ey1
  have L_145 : ∀ (I_145 : hI) (H : Heap) (locs : List Loc) (ls : Array Slot) (x6_145 : Int32), Hp D cy L C b0 s s.heap I_145 J R H locs → TT0 = F_X3_assign_3_145 a0 a1 a2 x3 x4 x5 y1 I_145 J R x6_145 → OkI L C I_145 → Sm C ms_X3_assign_3 (I, J, R) (I_145, J, R) → Rg x6_145 (0) (1) → lv_has ls 8 [(6, .int x6_145)] → W p l e (rmD 4) s m args below meth c H locs 0 0 Q (F0 m 145 ls []) := by
    intro I_145 H locs ls x6_145 hH hv oI sm r6_145 hl
    unfold F_X3_assign_3_145 at hv
    refine lv_iload hx hb dX3_assign_145 (lv_at hl 0 rfl) ?_
    exact ret (x6_145) _ _ _ _ _ _ _ dX3_assign_147 hH (Rg_01 (Rg_w r6_145 (by decide))) ⟨⟨oI, oR, sm⟩, rfl, rfl, r6_145, (hT.symm.trans hv)⟩
  have L_143 : ∀ (I_143 : hI) (H : Heap) (locs : List Loc) (ls : Array Slot) (xs0_143 : Int32), Hp D cy L C b0 s s.heap I_143 J R H locs → TT0 = F_X3_assign_3_143 a0 a1 a2 x3 x4 x5 y1 I_143 J R xs0_143 → OkI L C I_143 → Sm C ms_X3_assign_3 (I, J, R) (I_143, J, R) → Rg xs0_143 (0) (1) → lv_has ls 8 [] → W p l e (rmD 4) s m args below meth c H locs 0 0 Q (F0 m 143 ls [.int xs0_143]) := by
    intro I_143 H locs ls xs0_143 hH hv oI sm rs0_143 hl
    unfold F_X3_assign_3_143 at hv
    refine lv_istore (lv' := [(6, .int xs0_143)]) hx hb dX3_assign_143 hl (by decide) rfl (fun ls hl => ?_)
    exact L_145 I_143 _ _ _ xs0_143 hH hv oI sm rs0_143 (lv_sub hl [0] rfl)
  have L_138 : ∀ (I_138 : hI) (H : Heap) (locs : List Loc) (ls : Array Slot), Hp D cy L C b0 s s.heap I_138 J R H locs → TT0 = F_X3_assign_3_138 a0 a1 a2 x3 x4 x5 y1 I_138 J R → OkI L C I_138 → Sm C ms_X3_assign_3 (I, J, R) (I_138, J, R) → lv_has ls 8 [] → W p l e (rmD 4) s m args below meth c H locs 0 0 Q (F0 m 138 ls []) := by
    intro I_138 H locs ls hH hv oI sm hl
    unfold F_X3_assign_3_138 at hv
    refine lv_iconst (v := 1) hx hb dX3_assign_138 (by decide) ?_
    refine lv_goto (tgt := 143) hx hb dX3_assign_139 (by decide) ?_
    exact L_143 I_138 _ _ _ 1 hH hv oI sm (Rg_w (Rg_c (x := 1) (a := (1)) (b := (1)) (by decide)) (by decide)) (lv_sub hl [] rfl)
  have L_45 : ∀ (n_45 : Nat) (I_45 : hI) (H : Heap) (locs : List Loc) (ls : Array Slot) (x6_45 : Int32) (x7_45 : Int32), (4 - x7_45.toInt).toNat < n_45 → Hp D cy L C b0 s s.heap I_45 J R H locs → TT0 = F_X3_assign_3_45 a0 a1 a2 x3 x4 x5 y1 n_45 I_45 J R x6_45 x7_45 → OkI L C I_45 → Sm C ms_X3_assign_3 (I, J, R) (I_45, J, R) → Rg x3 (3) (3) → Rg x5 (-2147483648) (2147483646) → Rg x6_45 (0) (1) → Rg x7_45 (0) (4) → lv_has ls 8 [(0, .ref a0), (1, .ref a1), (2, .ref a2), (3, .int x3), (4, .int x4), (5, .int x5), (6, .int x6_45), (7, .int x7_45)] → W p l e (rmD 4) s m args below meth c H locs 0 0 Q (F0 m 45 ls []) := by
    intro n_45
    induction n_45 with
    | zero => intro I_45 H locs ls x6_45 x7_45 h; exact absurd h (Nat.not_lt_zero _)
    | succ n_45 ih_45 =>
      intro I_45 H locs ls x6_45 x7_45 hn_45 hH hv oI sm r3_45 r5_45 r6_45 r7_45 hl
      replace hv := hv.trans F_X3_assign_3_45_s
      unfold B_X3_assign_3_45 at hv
      have L_83 : ∀ (I_83 : hI) (H : Heap) (locs : List Loc) (ls : Array Slot) (x6_83 : Int32), Hp D cy L C b0 s s.heap I_83 J R H locs → TT0 = F_X3_assign_3_83 a0 a1 a2 x3 x4 x5 y1 x6_45 x7_45 (F_X3_assign_3_45 a0 a1 a2 x3 x4 x5 y1 n_45) I_83 J R x6_83 → OkI L C I_83 → Sm C ms_X3_assign_3 (I, J, R) (I_83, J, R) → Rg x3 (3) (3) → Rg x5 (-2147483648) (2147483646) → Rg x6_83 (0) (1) → Rg x7_45 (0) (3) → lv_has ls 8 [(0, .ref a0), (1, .ref a1), (2, .ref a2), (3, .int x3), (4, .int x4), (5, .int x5), (6, .int x6_83), (7, .int x7_45)] → W p l e (rmD 4) s m args below meth c H locs 0 0 Q (F0 m 83 ls []) := by
        intro I_83 H locs ls x6_83 hH hv oI sm r3_83 r5_83 r6_83 r7_83 hl
        unfold F_X3_assign_3_83 at hv
        obtain ⟨y2, ey2⟩ : ∃ y : Int32, y = x7_45 + 1 := ⟨_, rfl⟩
        replace hv := fnS hv ey2
        obtain ⟨ty2, ry2⟩ := Rg_addx (a' := (1)) (b' := (4)) (rfl : x7_45.toInt = _) (by decide : Int32.toInt 1 = 1) r7_83 (Rg_c (x := 1) (a := (1)) (b := (1)) (by decide)) (by decide)
        rw [← ey2] at ty2 ry2
        refine lv_iinc (v := y2) (lv' := [(7, .int y2), (0, .ref a0), (1, .ref a1), (2, .ref a2), (3, .int x3), (4, .int x4), (5, .int x5), (6, .int x6_83)]) hx hb dX3_assign_83 hl (k := 7) rfl (by rw [ey2]; rfl) (by decide) rfl (fun ls hl => ?_)
        refine lv_goto (tgt := 45) hx hb dX3_assign_86 (by decide) ?_
        exact ih_45 I_83 _ _ _ x6_83 y2 (lp_up hn_45 ty2 (Rg_ltc r7_83 (by decide))) hH hv oI sm r3_83 r5_83 r6_83 (Rg_w ry2 (by decide)) (lv_sub hl [1, 2, 3, 4, 5, 6, 7, 0] rfl)
      refine lv_iload hx hb dX3_assign_45 (lv_at hl 7 rfl) ?_
      refine lv_aload_n hx hb dX3_assign_47 rfl (lv_at hl 1 rfl) ?_
      refine gf_5_2 hx hb hts hown hH m1 k1 rfl kf_X3_79 dX3_assign_48 ?_
      refine lv_topi (fun y3 ey3 => ?_)
      have ry3 : Rg y3 (0) (4) := by rw [ey3]; exact rf_5_2 oI m1 k1
      replace hv := fnS hv ey3
      refine lv_icmp_ge (tgt := 89) hx hb dX3_assign_51 (by decide) (fun q4 => ?_) (fun q4 => ?_)
      rotate_left
      · replace hv := fnN hv q4
        have r24 : Rg x7_45 (0) (3) := Rg_ult r7_45 (Rg_nle q4) ry3 (by decide)
        have r25 : Rg y3 (1) (4) := Rg_llt ry3 (Rg_nle q4) r7_45 (by decide)
        refine lv_iload hx hb dX3_assign_54 (lv_at hl 4 rfl) ?_
        refine lv_iload hx hb dX3_assign_56 (lv_at hl 7 rfl) ?_
        refine lv_ishr hx hb dX3_assign_58 ?_
        refine lv_topi (fun y26 ey26 => ?_)
        replace hv := fnS hv ey26
        refine lv_iconst (v := 1) hx hb dX3_assign_59 (by decide) ?_
        refine lv_iand hx hb dX3_assign_60 ?_
        refine lv_topi (fun y27 ey27 => ?_)
        replace hv := fnS hv ey27
        have ry27 : Rg y27 0 1 := by rw [ey27]; exact Rg_and1 _
        refine lv_if_ne (tgt := 83) hx hb dX3_assign_61 (by decide) (fun q28 => ?_) (fun q28 => ?_)
        · replace hv := fnN hv q28
          have r29 : Rg y27 (1) (1) := Rg_nelo ry27 (Rg_ne q28) (Rg_c (x := 0) (a := (0)) (b := (0)) (by decide)) (by decide)
          exact L_83 I_45 _ _ _ x6_45 hH hv oI sm r3_45 r5_45 r6_45 r24 (lv_sub hl [0, 1, 2, 3, 4, 5, 6, 7] rfl)
        replace hv := fnP hv q28
        have r30 : Rg y27 (0) (0) := Rg_both ry27 (Rg_eqv q28 (Rg_c (x := 0) (a := (0)) (b := (0)) (by decide))) (by decide)
        refine lv_aload_n hx hb dX3_assign_64 rfl (lv_at hl 0 rfl) ?_
        refine lv_aload_n hx hb dX3_assign_65 rfl (lv_at hl 1 rfl) ?_
        refine lv_aload_n hx hb dX3_assign_66 rfl (lv_at hl 2 rfl) ?_
        refine lv_iload_n hx hb dX3_assign_67 rfl (lv_at hl 3 rfl) ?_
        refine lv_iload hx hb dX3_assign_68 (lv_at hl 7 rfl) ?_
        refine lv_iload hx hb dX3_assign_70 (lv_at hl 4 rfl) ?_
        refine lv_iload hx hb dX3_assign_72 (lv_at hl 5 rfl) ?_
        refine ca_X3_92 hx hb hml hown hts hH (c_X3_take_3 oI oR m0 k0 m1 k1 m2 k2 r3_45 r24) hl.1 m0 k0 rfl (by decide) (Nat.le_of_ble_eq_true rfl) ⟨Nat.zero_le _, Nat.zero_le _⟩ dX3_assign_74 (fun y31 I31 J31 R31 H locs hp hH => ?_)
        obtain ⟨⟨oI, -, sc31⟩, eJ31, eR31, ry31, hf31⟩ := hp
        obtain rfl : J = J31 := eJ31.symm
        obtain rfl : R = R31 := eR31.symm
        replace hv := fnC hv hf31
        have sm : Sm C ms_X3_assign_3 (I, J, R) (I31, J, R) := sm.tr sc31 rfl
        refine lv_if_eq (tgt := 83) hx hb dX3_assign_77 (by decide) (fun q32 => ?_) (fun q32 => ?_)
        · replace hv := fnP hv q32
          have r33 : Rg y31 (0) (0) := Rg_both ry31 (Rg_eqv q32 (Rg_c (x := 0) (a := (0)) (b := (0)) (by decide))) (by decide)
          exact L_83 I31 _ _ _ x6_45 hH hv oI sm r3_45 r5_45 r6_45 r24 (lv_sub hl [0, 1, 2, 3, 4, 5, 6, 7] rfl)
        replace hv := fnN hv q32
        have r34 : Rg y31 (1) (1) := Rg_nelo ry31 (Rg_ne q32) (Rg_c (x := 0) (a := (0)) (b := (0)) (by decide)) (by decide)
        refine lv_iconst (v := 1) hx hb dX3_assign_80 (by decide) ?_
        refine lv_istore (lv' := [(6, .int 1), (0, .ref a0), (1, .ref a1), (2, .ref a2), (3, .int x3), (4, .int x4), (5, .int x5), (7, .int x7_45)]) hx hb dX3_assign_81 hl (by decide) rfl (fun ls hl => ?_)
        exact L_83 I31 _ _ _ 1 hH hv oI sm r3_45 r5_45 (Rg_w (Rg_c (x := 1) (a := (1)) (b := (1)) (by decide)) (by decide)) r24 (lv_sub hl [1, 2, 3, 4, 5, 6, 0, 7] rfl)
      replace hv := fnP hv q4
      refine lv_aload_n hx hb dX3_assign_89 rfl (lv_at hl 0 rfl) ?_
      obtain ⟨b5, mb5, vb5, kb5⟩ := rf_3_2 oR m0 k0
      replace hv := fnR hv vb5
      refine gf_3_2 vb5 hx hb hts hown hH m0 k0 rfl kf_X3_34 dX3_assign_90 ?_
      obtain ⟨b6, mb6, vb6, kb6⟩ := rf_2_0 oR mb5 kb5
      replace hv := fnR hv vb6
      refine gf_2_0 vb6 hx hb hts hown hH mb5 kb5 rfl kf_X3_96 dX3_assign_93 ?_
      refine lv_aload_n hx hb dX3_assign_96 rfl (lv_at hl 2 rfl) ?_
      obtain ⟨b7, mb7, vb7, kb7⟩ := rf_5_3 oR m2 k2
      replace hv := fnR hv vb7
      refine gf_5_3 vb7 hx hb hts hown hH m2 k2 rfl kf_X3_102 dX3_assign_97 ?_
      refine lv_iload_n hx hb dX3_assign_100 rfl (lv_at hl 3 rfl) ?_
      refine ld_54 hx hb hH mb7 kb7 (Rg_in r3_45 (by decide)) dX3_assign_101 ?_
      refine lv_topi (fun y8 ey8 => ?_)
      have ry8 : Rg y8 (0) (6) := by rw [ey8]; exact rd_54 oI mb7 kb7 (Rg_in r3_45 (by decide))
      replace hv := fnS hv ey8
      refine ld_41 hx hb hH mb6 kb6 (Rg_in ry8 (by decide)) dX3_assign_102 ?_
      refine lv_topi (fun y9 ey9 => ?_)
      have ry9 : Rg y9 (0) (1) := by rw [ey9]; exact rd_41 oI mb6 kb6 (Rg_in ry8 (by decide))
      replace hv := fnS hv ey9
      refine lv_if_eq (tgt := 145) hx hb dX3_assign_103 (by decide) (fun q10 => ?_) (fun q10 => ?_)
      · replace hv := fnP hv q10
        have r11 : Rg y9 (0) (0) := Rg_both ry9 (Rg_eqv q10 (Rg_c (x := 0) (a := (0)) (b := (0)) (by decide))) (by decide)
        exact L_145 I_45 _ _ _ x6_45 hH hv oI sm r6_45 (lv_sub hl [6] rfl)
      replace hv := fnN hv q10
      have r12 : Rg y9 (1) (1) := Rg_nelo ry9 (Rg_ne q10) (Rg_c (x := 0) (a := (0)) (b := (0)) (by decide)) (by decide)
      refine lv_aload_n hx hb dX3_assign_106 rfl (lv_at hl 0 rfl) ?_
      obtain ⟨b13, mb13, vb13, kb13⟩ := rf_3_3 oR m0 k0
      replace hv := fnR hv vb13
      refine gf_3_3 vb13 hx hb hts hown hH m0 k0 rfl kf_X3_9 dX3_assign_107 ?_
      refine lv_iload_n hx hb dX3_assign_110 rfl (lv_at hl 3 rfl) ?_
      refine lv_bipush (v := 9) hx hb dX3_assign_111 (by decide) ?_
      refine st_43 hx hb hH mb13 kb13 (Rg_in r3_45 (by decide)) dX3_assign_113 (fun I14 H locs eI14 hH => ?_)
      replace hv := fnS hv eI14
      have oI : OkI L C I14 := by rw [eI14]; exact wr_43 oI kb13 (Rg_w (Rg_c (x := 9) (a := (9)) (b := (9)) (by decide)) (by decide)) (by first | exact Or.inl (by decide) | exact Or.inr (by decide))
      have sm : Sm C ms_X3_assign_3 (I, J, R) (I14, J, R) := by rw [eI14]; exact sm.stI kb13 (mC_arr (by decide) rfl)
      refine lv_aload_n hx hb dX3_assign_114 rfl (lv_at hl 0 rfl) ?_
      refine lv_aload_n hx hb dX3_assign_115 rfl (lv_at hl 1 rfl) ?_
      refine lv_aload_n hx hb dX3_assign_116 rfl (lv_at hl 2 rfl) ?_
      refine lv_iload_n hx hb dX3_assign_117 rfl (lv_at hl 3 rfl) ?_
      refine lv_iconst (v := 1) hx hb dX3_assign_118 (by decide) ?_
      refine lv_iadd hx hb dX3_assign_119 ?_
      refine lv_topi (fun y15 ey15 => ?_)
      replace hv := fnS hv ey15
      obtain ⟨ty15, ry15⟩ := Rg_addx (a' := (4)) (b' := (4)) (rfl : x3.toInt = _) (by decide : Int32.toInt 1 = 1) r3_45 (Rg_c (x := 1) (a := (1)) (b := (1)) (by decide)) (by decide)
      rw [← ey15] at ty15 ry15
      refine lv_iload hx hb dX3_assign_120 (lv_at hl 4 rfl) ?_
      refine lv_iload hx hb dX3_assign_122 (lv_at hl 5 rfl) ?_
      refine lv_bipush (v := 7) hx hb dX3_assign_124 (by decide) ?_
      refine lv_iadd hx hb dX3_assign_126 ?_
      refine lv_topi (fun y16 ey16 => ?_)
      replace hv := fnS hv ey16
      refine ca_X3_51 hx hb hml hown hts hH (c_X3_assign_4 oI oR m0 k0 m1 k1 m2 k2 ry15) hl.1 m0 k0 rfl (by decide) (Nat.le_of_ble_eq_true rfl) ⟨Nat.zero_le _, Nat.zero_le _⟩ dX3_assign_127 (fun y17 I17 J17 R17 H locs hp hH => ?_)
      obtain ⟨⟨oI, -, sc17⟩, eJ17, eR17, ry17, hf17⟩ := hp
      obtain rfl : J = J17 := eJ17.symm
      obtain rfl : R = R17 := eR17.symm
      replace hv := fnC hv hf17
      have sm : Sm C ms_X3_assign_3 (I, J, R) (I17, J, R) := sm.tr sc17 rfl
      refine lv_if_ne (tgt := 138) hx hb dX3_assign_130 (by decide) (fun q18 => ?_) (fun q18 => ?_)
      · replace hv := fnN hv q18
        have r19 : Rg y17 (1) (1) := Rg_nelo ry17 (Rg_ne q18) (Rg_c (x := 0) (a := (0)) (b := (0)) (by decide)) (by decide)
        exact L_138 I17 _ _ _ hH hv oI sm (lv_sub hl [] rfl)
      replace hv := fnP hv q18
      have r20 : Rg y17 (0) (0) := Rg_both ry17 (Rg_eqv q18 (Rg_c (x := 0) (a := (0)) (b := (0)) (by decide))) (by decide)
      refine lv_iload hx hb dX3_assign_133 (lv_at hl 6 rfl) ?_
      refine lv_if_eq (tgt := 142) hx hb dX3_assign_135 (by decide) (fun q21 => ?_) (fun q21 => ?_)
      rotate_left
      · replace hv := fnN hv q21
        have r23 : Rg x6_45 (1) (1) := Rg_nelo r6_45 (Rg_ne q21) (Rg_c (x := 0) (a := (0)) (b := (0)) (by decide)) (by decide)
        exact L_138 I17 _ _ _ hH hv oI sm (lv_sub hl [] rfl)
      replace hv := fnP hv q21
      have r22 : Rg x6_45 (0) (0) := Rg_both r6_45 (Rg_eqv q21 (Rg_c (x := 0) (a := (0)) (b := (0)) (by decide))) (by decide)
      refine lv_iconst (v := 0) hx hb dX3_assign_142 (by decide) ?_
      exact L_143 I17 _ _ _ 0 hH hv oI sm (Rg_w (Rg_c (x := 0) (a := (0)) (b := (0)) (by decide)) (by decide)) (lv_sub hl [] rfl)
  refine lv_icmp_lt (tgt := 11) hx hb dX3_assign_6 (by decide) (fun q35 => ?_) (fun q35 => ?_)
  rotate_left
  · replace hv := fnN hv q35
    refine lv_iconst (v := 0) hx hb dX3_assign_9 (by decide) ?_
    exact ret (0) _ _ _ _ _ _ _ dX3_assign_10 hH (Rg_01 (Rg_w (Rg_c (x := 0) (a := (0)) (b := (0)) (by decide)) (by decide))) ⟨⟨oI, oR, sm⟩, rfl, rfl, (Rg_w (Rg_c (x := 0) (a := (0)) (b := (0)) (by decide)) (by decide)), (hT.symm.trans hv)⟩
  replace hv := fnP hv q35
  have r36 : Rg x5 (-2147483648) (2147483646) := Rg_ult (Rg_any x5) (Rg_lt q35) (Rg_any y1) (by decide)
  have r37 : Rg y1 (-2147483647) (2147483647) := Rg_llt (Rg_any y1) (Rg_lt q35) (Rg_any x5) (by decide)
  refine lv_iload_n hx hb dX3_assign_11 rfl (lv_at hl 3 rfl) ?_
  refine lv_aload_n hx hb dX3_assign_12 rfl (lv_at hl 2 rfl) ?_
  refine gf_5_2 hx hb hts hown hH m2 k2 rfl kf_X3_79 dX3_assign_13 ?_
  refine lv_topi (fun y38 ey38 => ?_)
  have ry38 : Rg y38 (0) (4) := by rw [ey38]; exact rf_5_2 oI m2 k2
  replace hv := fnS hv ey38
  refine lv_icmp_lt (tgt := 39) hx hb dX3_assign_16 (by decide) (fun q39 => ?_) (fun q39 => ?_)
  · replace hv := fnP hv q39
    have r40 : Rg y38 (4) (4) := Rg_llt ry38 (Rg_lt q39) h3 (by decide)
    refine lv_iconst (v := 0) hx hb dX3_assign_39 (by decide) ?_
    refine lv_istore (lv' := [(6, .int 0), (0, .ref a0), (1, .ref a1), (2, .ref a2), (3, .int x3), (4, .int x4), (5, .int x5)]) hx hb dX3_assign_40 hl (by decide) rfl (fun ls hl => ?_)
    refine lv_iconst (v := 0) hx hb dX3_assign_42 (by decide) ?_
    refine lv_istore (lv' := [(7, .int 0), (6, .int 0), (0, .ref a0), (1, .ref a1), (2, .ref a2), (3, .int x3), (4, .int x4), (5, .int x5)]) hx hb dX3_assign_43 hl (by decide) rfl (fun ls hl => ?_)
    exact L_45 ((4 - (0 : Int32).toInt).toNat + 1) I _ _ _ 0 0 (Nat.lt_succ_self _) hH hv oI sm h3 r36 (Rg_w (Rg_c (x := 0) (a := (0)) (b := (0)) (by decide)) (by decide)) (Rg_w (Rg_c (x := 0) (a := (0)) (b := (0)) (by decide)) (by decide)) (lv_sub hl [2, 3, 4, 5, 6, 7, 1, 0] rfl)
  replace hv := fnN hv q39
  have r41 : Rg y38 (0) (3) := Rg_ule ry38 (Rg_nlt q39) h3 (by decide)
  refine lv_aload_n hx hb dX3_assign_19 rfl (lv_at hl 0 rfl) ?_
  refine lv_iload hx hb dX3_assign_20 (lv_at hl 5 rfl) ?_
  refine lv_iconst (v := 4) hx hb dX3_assign_22 (by decide) ?_
  refine lv_aload_n hx hb dX3_assign_23 rfl (lv_at hl 1 rfl) ?_
  refine gf_5_2 hx hb hts hown hH m1 k1 rfl kf_X3_79 dX3_assign_24 ?_
  refine lv_topi (fun y42 ey42 => ?_)
  have ry42 : Rg y42 (0) (4) := by rw [ey42]; exact rf_5_2 oI m1 k1
  replace hv := fnS hv ey42
  refine lv_iload hx hb dX3_assign_27 (lv_at hl 4 rfl) ?_
  refine ca_X3_82 hx hb hml hown hts hH (c_J6_bitCount_0f7a4 ) hl.1 (by decide) (Nat.le_of_ble_eq_true rfl) ⟨Nat.zero_le _, Nat.zero_le _⟩ dX3_assign_29 (fun y43 I43 J43 R43 H locs hp hH => ?_)
  obtain ⟨eI43, eJ43, eR43, hf43⟩ := hp
  obtain rfl : I = I43 := eI43.symm
  obtain rfl : J = J43 := eJ43.symm
  obtain rfl : R = R43 := eR43.symm
  replace hv := fnS hv hf43.symm
  refine lv_isub hx hb dX3_assign_32 ?_
  refine lv_topi (fun y44 ey44 => ?_)
  replace hv := fnS hv ey44
  refine lv_imul hx hb dX3_assign_33 ?_
  refine lv_topi (fun y45 ey45 => ?_)
  replace hv := fnS hv ey45
  refine lv_iadd hx hb dX3_assign_34 ?_
  refine lv_topi (fun y46 ey46 => ?_)
  replace hv := fnS hv ey46
  refine ca_X3_88 hx hb hml hown hts hH (c_X3_settle oI oR m0 k0) hl.1 m0 k0 rfl (by decide) (Nat.le_of_ble_eq_true rfl) ⟨Nat.zero_le _, Nat.zero_le _⟩ dX3_assign_35 (fun y47 I47 J47 R47 H locs hp hH => ?_)
  obtain ⟨⟨oI, -, sc47⟩, eJ47, eR47, ry47, hf47⟩ := hp
  obtain rfl : J = J47 := eJ47.symm
  obtain rfl : R = R47 := eR47.symm
  replace hv := fnC hv hf47
  have sm : Sm C ms_X3_assign_3 (I, J, R) (I47, J, R) := sm.tr sc47 rfl
  exact ret (y47) _ _ _ _ _ _ _ dX3_assign_38 hH (Rg_01 (Rg_w ry47 (by decide))) ⟨⟨oI, oR, sm⟩, rfl, rfl, ry47, (hT.symm.trans hv)⟩
noncomputable def F_X3_take_2_49 (a0 : Nat) (a1 : Nat) (a2 : Nat) (x3 : Int32) (x4 : Int32) (x5 : Int32) (x6 : Int32) (y6 : Int32) (y3 : Int32) (y5 : Int32) (b1 : Nat) (b2 : Nat) (b4 : Nat) (I_49 : hI) (J : hJ) (R : hR) (xs0_49 : Int32) : Int32 × hU :=
  nm (x3 + (1 : Int32)) fun y7 => nm ((1 : Int32) <<< (x4 &&& 31)) fun y8 => nm (x5 ||| y8) fun y9 => nm (x6 + y6) fun y10 => nm (y10 + xs0_49) fun y11 => nmU (F_X3_assign_3 a0 a1 a2 y7 y9 y11 I_49 J R) fun y12 I12 _ _ => (y12, (I12, J, R))
noncomputable def F_X3_take_2 (a0 : Nat) (a1 : Nat) (a2 : Nat) (x3 : Int32) (x4 : Int32) (x5 : Int32) (x6 : Int32) (I : hI) (J : hJ) (R : hR) : Int32 × hU :=
  nm ((R a0 0).getD 0) fun b1 => nm ((R a1 3).getD 0) fun b2 => nm (I b2 (Int32.toNatClampNeg x4)) fun y3 => nm ((R a2 3).getD 0) fun b4 => nm (I b4 (Int32.toNatClampNeg x3)) fun y5 => nm (F_X6_costBetween b1 y3 y5 I J R) fun y6 => (if y6 = (-1 : Int32) then ((0 : Int32), (I, J, R)) else nm ((R a0 3).getD 0) fun b14 => nm (u2 I b14 (Int32.toNatClampNeg x3) x4) fun I15 => (if x4 = x3 then F_X3_take_2_49 a0 a1 a2 x3 x4 x5 x6 y6 y3 y5 b1 b2 b4 I15 J R (0 : Int32) else F_X3_take_2_49 a0 a1 a2 x3 x4 x5 x6 y6 y3 y5 b1 b2 b4 I15 J R (1 : Int32)))
def ms_X3_take_2 : List Nat := [196, 2752, 2816]
set_option maxHeartbeats 4000000 in
set_option maxRecDepth 100000 in
theorem c_X3_take_2 {l : Launch} {D : va_G} {cy : Nat → ClassId} {L : List Nat} {C : Nat → Nat} {b0 : Nat} {I : hI} {J : hJ} {R : hR} {a0 : Nat} {a1 : Nat} {a2 : Nat} {x3 : Int32} {x4 : Int32} {x5 : Int32} {x6 : Int32} (oI : OkI L C I) (oR : OkR L C R) (m0 : a0 ∈ L) (k0 : C a0 = 3) (m1 : a1 ∈ L) (k1 : C a1 = 5) (m2 : a2 ∈ L) (k2 : C a2 = 5) (h3 : Rg x3 (2) (2)) (h4 : Rg x4 (0) (3)) : CI l yX3_take cX3_take 9 .boolean 5 D cy L C b0 [.ref a0, .ref a1, .ref a2, .int x3, .int x4, .int x5, .int x6] (I, J, R) (fun r v => Ps L C ms_X3_take_2 (I, J, R) v ∧ v.2.1 = J ∧ v.2.2 = R ∧ Rg r (0) (1) ∧ F_X3_take_2 a0 a1 a2 x3 x4 x5 x6 I J R = (r, v)) := by
  refine CI.mkZ (plainFor_of_name (by decide)) (Nat.le_of_ble_eq_true rfl) ?_
  intro p e s m args below meth c ls Q hF ret hH hl
  obtain ⟨hx, hb, -, hml, hown, hts, -⟩ := hF
  have hl : lv_has ls 9 [(0, .ref a0), (1, .ref a1), (2, .ref a2), (3, .int x3), (4, .int x4), (5, .int x5), (6, .int x6)] := hl
  have hH : Hp D cy L C b0 s s.heap I J R s.heap [] := hH
  have sm : Sm C ms_X3_take_2 (I, J, R) (I, J, R) := Sm.rf
  obtain ⟨TT0, hT⟩ : ∃ TT0, TT0 = F_X3_take_2 a0 a1 a2 x3 x4 x5 x6 I J R := ⟨_, rfl⟩
  have hv := hT
  unfold F_X3_take_2 at hv
  refine lv_aload_n hx hb dX3_take_0 rfl (lv_at hl 0 rfl) ?_
  obtain ⟨b1, mb1, vb1, kb1⟩ := rf_3_0 oR m0 k0
  replace hv := fnR hv vb1
  refine gf_3_0 vb1 hx hb hts hown hH m0 k0 rfl kf_X3_26 dX3_take_1 ?_
  refine lv_aload_n hx hb dX3_take_4 rfl (lv_at hl 1 rfl) ?_
  obtain ⟨b2, mb2, vb2, kb2⟩ := rf_5_3 oR m1 k1
  replace hv := fnR hv vb2
  refine gf_5_3 vb2 hx hb hts hown hH m1 k1 rfl kf_X3_102 dX3_take_5 ?_
  refine lv_iload hx hb dX3_take_8 (lv_at hl 4 rfl) ?_
  refine ld_54 hx hb hH mb2 kb2 (Rg_in h4 (by decide)) dX3_take_10 ?_
  refine lv_topi (fun y3 ey3 => ?_)
  have ry3 : Rg y3 (0) (6) := by rw [ey3]; exact rd_54 oI mb2 kb2 (Rg_in h4 (by decide))
  replace hv := fnS hv ey3
  refine lv_aload_n hx hb dX3_take_11 rfl (lv_at hl 2 rfl) ?_
  obtain ⟨b4, mb4, vb4, kb4⟩ := rf_5_3 oR m2 k2
  replace hv := fnR hv vb4
  refine gf_5_3 vb4 hx hb hts hown hH m2 k2 rfl kf_X3_102 dX3_take_12 ?_
  refine lv_iload_n hx hb dX3_take_15 rfl (lv_at hl 3 rfl) ?_
  refine ld_54 hx hb hH mb4 kb4 (Rg_in h3 (by decide)) dX3_take_16 ?_
  refine lv_topi (fun y5 ey5 => ?_)
  have ry5 : Rg y5 (0) (6) := by rw [ey5]; exact rd_54 oI mb4 kb4 (Rg_in h3 (by decide))
  replace hv := fnS hv ey5
  refine ca_X3_73 hx hb hml hown hts hH (c_X6_costBetween oI oR mb1 kb1 ry3 ry5) hl.1 mb1 kb1 rfl (by decide) (Nat.le_of_ble_eq_true rfl) ⟨Nat.zero_le _, Nat.zero_le _⟩ dX3_take_17 (fun y6 I6 J6 R6 H locs hp hH => ?_)
  obtain ⟨eI6, eJ6, eR6, hf6⟩ := hp
  obtain rfl : I = I6 := eI6.symm
  obtain rfl : J = J6 := eJ6.symm
  obtain rfl : R = R6 := eR6.symm
  replace hv := fnS hv hf6.symm
  refine lv_istore (lv' := [(7, .int y6), (0, .ref a0), (1, .ref a1), (2, .ref a2), (3, .int x3), (4, .int x4), (5, .int x5), (6, .int x6)]) hx hb dX3_take_20 hl (by decide) rfl (fun ls hl => ?_)
  refine lv_iload hx hb dX3_take_22 (lv_at hl 0 rfl) ?_
  refine lv_iconst (v := (-1)) hx hb dX3_take_24 (by decide) ?_
  have L_49 : ∀ (I_49 : hI) (H : Heap) (locs : List Loc) (ls : Array Slot) (xs0_49 : Int32), Hp D cy L C b0 s s.heap I_49 J R H locs → TT0 = F_X3_take_2_49 a0 a1 a2 x3 x4 x5 x6 y6 y3 y5 b1 b2 b4 I_49 J R xs0_49 → OkI L C I_49 → Sm C ms_X3_take_2 (I, J, R) (I_49, J, R) → Rg xs0_49 (0) (1) → Rg x3 (2) (2) → Rg x4 (0) (3) → lv_has ls 9 [(0, .ref a0), (1, .ref a1), (2, .ref a2), (3, .int x3), (4, .int x4), (5, .int x5), (6, .int x6), (7, .int y6)] → W p l e (rmD 5) s m args below meth c H locs 0 0 Q (F0 m 49 ls [.int xs0_49]) := by
    intro I_49 H locs ls xs0_49 hH hv oI sm rs0_49 r3_49 r4_49 hl
    unfold F_X3_take_2_49 at hv
    refine lv_istore (lv' := [(8, .int xs0_49), (0, .ref a0), (1, .ref a1), (2, .ref a2), (3, .int x3), (4, .int x4), (5, .int x5), (6, .int x6), (7, .int y6)]) hx hb dX3_take_49 hl (by decide) rfl (fun ls hl => ?_)
    refine lv_aload_n hx hb dX3_take_51 rfl (lv_at hl 1 rfl) ?_
    refine lv_aload_n hx hb dX3_take_52 rfl (lv_at hl 2 rfl) ?_
    refine lv_aload_n hx hb dX3_take_53 rfl (lv_at hl 3 rfl) ?_
    refine lv_iload_n hx hb dX3_take_54 rfl (lv_at hl 4 rfl) ?_
    refine lv_iconst (v := 1) hx hb dX3_take_55 (by decide) ?_
    refine lv_iadd hx hb dX3_take_56 ?_
    refine lv_topi (fun y7 ey7 => ?_)
    replace hv := fnS hv ey7
    obtain ⟨ty7, ry7⟩ := Rg_addx (a' := (3)) (b' := (3)) (rfl : x3.toInt = _) (by decide : Int32.toInt 1 = 1) r3_49 (Rg_c (x := 1) (a := (1)) (b := (1)) (by decide)) (by decide)
    rw [← ey7] at ty7 ry7
    refine lv_iload hx hb dX3_take_57 (lv_at hl 6 rfl) ?_
    refine lv_iconst (v := 1) hx hb dX3_take_59 (by decide) ?_
    refine lv_iload hx hb dX3_take_60 (lv_at hl 5 rfl) ?_
    refine lv_ishl hx hb dX3_take_62 ?_
    refine lv_topi (fun y8 ey8 => ?_)
    replace hv := fnS hv ey8
    refine lv_ior hx hb dX3_take_63 ?_
    refine lv_topi (fun y9 ey9 => ?_)
    replace hv := fnS hv ey9
    refine lv_iload hx hb dX3_take_64 (lv_at hl 7 rfl) ?_
    refine lv_iload hx hb dX3_take_66 (lv_at hl 8 rfl) ?_
    refine lv_iadd hx hb dX3_take_68 ?_
    refine lv_topi (fun y10 ey10 => ?_)
    replace hv := fnS hv ey10
    refine lv_iload hx hb dX3_take_69 (lv_at hl 0 rfl) ?_
    refine lv_iadd hx hb dX3_take_71 ?_
    refine lv_topi (fun y11 ey11 => ?_)
    replace hv := fnS hv ey11
    refine ca_X3_51 hx hb hml hown hts hH (c_X3_assign_3 oI oR m0 k0 m1 k1 m2 k2 ry7) hl.1 m0 k0 rfl (by decide) (Nat.le_of_ble_eq_true rfl) ⟨Nat.zero_le _, Nat.zero_le _⟩ dX3_take_72 (fun y12 I12 J12 R12 H locs hp hH => ?_)
    obtain ⟨⟨oI, -, sc12⟩, eJ12, eR12, ry12, hf12⟩ := hp
    obtain rfl : J = J12 := eJ12.symm
    obtain rfl : R = R12 := eR12.symm
    replace hv := fnC hv hf12
    have sm : Sm C ms_X3_take_2 (I, J, R) (I12, J, R) := sm.tr sc12 rfl
    exact ret (y12) _ _ _ _ _ _ _ dX3_take_75 hH (Rg_01 (Rg_w ry12 (by decide))) ⟨⟨oI, oR, sm⟩, rfl, rfl, ry12, (hT.symm.trans hv)⟩
  refine lv_icmp_ne (tgt := 30) hx hb dX3_take_25 (by decide) (fun q13 => ?_) (fun q13 => ?_)
  rotate_left
  · replace hv := fnP hv q13
    have r18 : Rg y6 (-1) (-1) := Rg_both (Rg_any y6) (Rg_eqv q13 (Rg_c (x := (-1)) (a := (-1)) (b := (-1)) (by decide))) (by decide)
    refine lv_iconst (v := 0) hx hb dX3_take_28 (by decide) ?_
    exact ret (0) _ _ _ _ _ _ _ dX3_take_29 hH (Rg_01 (Rg_w (Rg_c (x := 0) (a := (0)) (b := (0)) (by decide)) (by decide))) ⟨⟨oI, oR, sm⟩, rfl, rfl, (Rg_w (Rg_c (x := 0) (a := (0)) (b := (0)) (by decide)) (by decide)), (hT.symm.trans hv)⟩
  replace hv := fnN hv q13
  refine lv_aload_n hx hb dX3_take_30 rfl (lv_at hl 1 rfl) ?_
  obtain ⟨b14, mb14, vb14, kb14⟩ := rf_3_3 oR m0 k0
  replace hv := fnR hv vb14
  refine gf_3_3 vb14 hx hb hts hown hH m0 k0 rfl kf_X3_9 dX3_take_31 ?_
  refine lv_iload_n hx hb dX3_take_34 rfl (lv_at hl 4 rfl) ?_
  refine lv_iload hx hb dX3_take_35 (lv_at hl 5 rfl) ?_
  refine st_43 hx hb hH mb14 kb14 (Rg_in h3 (by decide)) dX3_take_37 (fun I15 H locs eI15 hH => ?_)
  replace hv := fnS hv eI15
  have oI : OkI L C I15 := by rw [eI15]; exact wr_43 oI kb14 (Rg_w h4 (by decide)) (Or.inl (Rg_w (a' := (0)) (b' := (3)) h4 (by decide)).2)
  have sm : Sm C ms_X3_take_2 (I, J, R) (I15, J, R) := by rw [eI15]; exact sm.stI kb14 (mC_arr (by decide) rfl)
  refine lv_iload hx hb dX3_take_38 (lv_at hl 5 rfl) ?_
  refine lv_iload_n hx hb dX3_take_40 rfl (lv_at hl 4 rfl) ?_
  refine lv_icmp_ne (tgt := 48) hx hb dX3_take_41 (by decide) (fun q16 => ?_) (fun q16 => ?_)
  · replace hv := fnN hv q16
    refine lv_iconst (v := 1) hx hb dX3_take_48 (by decide) ?_
    exact L_49 I15 _ _ _ 1 hH hv oI sm (Rg_w (Rg_c (x := 1) (a := (1)) (b := (1)) (by decide)) (by decide)) h3 h4 (lv_sub hl [1, 2, 3, 4, 5, 6, 7, 0] rfl)
  replace hv := fnP hv q16
  have r17 : Rg x4 (2) (2) := Rg_both h4 (Rg_eqv q16 h3) (by decide)
  refine lv_iconst (v := 0) hx hb dX3_take_44 (by decide) ?_
  refine lv_goto (tgt := 49) hx hb dX3_take_45 (by decide) ?_
  exact L_49 I15 _ _ _ 0 hH hv oI sm (Rg_w (Rg_c (x := 0) (a := (0)) (b := (0)) (by decide)) (by decide)) h3 (Rg_w r17 (by decide)) (lv_sub hl [1, 2, 3, 4, 5, 6, 7, 0] rfl)
noncomputable def F_X3_assign_2_145 (a0 : Nat) (a1 : Nat) (a2 : Nat) (x3 : Int32) (x4 : Int32) (x5 : Int32) (y1 : Int32) (I_145 : hI) (J : hJ) (R : hR) (x6_145 : Int32) : Int32 × hU :=
  (x6_145, (I_145, J, R))
noncomputable def F_X3_assign_2_143 (a0 : Nat) (a1 : Nat) (a2 : Nat) (x3 : Int32) (x4 : Int32) (x5 : Int32) (y1 : Int32) (I_143 : hI) (J : hJ) (R : hR) (xs0_143 : Int32) : Int32 × hU :=
  F_X3_assign_2_145 a0 a1 a2 x3 x4 x5 y1 I_143 J R xs0_143
noncomputable def F_X3_assign_2_138 (a0 : Nat) (a1 : Nat) (a2 : Nat) (x3 : Int32) (x4 : Int32) (x5 : Int32) (y1 : Int32) (I_138 : hI) (J : hJ) (R : hR) : Int32 × hU :=
  F_X3_assign_2_143 a0 a1 a2 x3 x4 x5 y1 I_138 J R (1 : Int32)
noncomputable def F_X3_assign_2_83 (a0 : Nat) (a1 : Nat) (a2 : Nat) (x3 : Int32) (x4 : Int32) (x5 : Int32) (y1 : Int32) (x6_45 : Int32) (x7_45 : Int32) (k_45 : hI → hJ → hR → Int32 → Int32 → (Int32 × hU)) (I_83 : hI) (J : hJ) (R : hR) (x6_83 : Int32) : Int32 × hU :=
  nm (x7_45 + (1 : Int32)) fun y2 => k_45 I_83 J R x6_83 y2
noncomputable def B_X3_assign_2_45 (a0 : Nat) (a1 : Nat) (a2 : Nat) (x3 : Int32) (x4 : Int32) (x5 : Int32) (y1 : Int32) (k_45 : hI → hJ → hR → Int32 → Int32 → (Int32 × hU)) (I_45 : hI) (J : hJ) (R : hR) (x6_45 : Int32) (x7_45 : Int32) : Int32 × hU :=
  nm (I_45 a1 2) fun y3 => (if y3 ≤ x7_45 then nm ((R a0 2).getD 0) fun b5 => nm ((R b5 0).getD 0) fun b6 => nm ((R a2 3).getD 0) fun b7 => nm (I_45 b7 (Int32.toNatClampNeg x3)) fun y8 => nm (I_45 b6 (Int32.toNatClampNeg y8)) fun y9 => (if y9 = (0 : Int32) then F_X3_assign_2_145 a0 a1 a2 x3 x4 x5 y1 I_45 J R x6_45 else nm ((R a0 3).getD 0) fun b13 => nm (u2 I_45 b13 (Int32.toNatClampNeg x3) (9 : Int32)) fun I14 => nm (x3 + (1 : Int32)) fun y15 => nm (x5 + (7 : Int32)) fun y16 => nmU (F_X3_assign_3 a0 a1 a2 y15 x4 y16 I14 J R) fun y17 I17 _ _ => (if y17 = (0 : Int32) then (if x6_45 = (0 : Int32) then F_X3_assign_2_143 a0 a1 a2 x3 x4 x5 y1 I17 J R (0 : Int32) else F_X3_assign_2_138 a0 a1 a2 x3 x4 x5 y1 I17 J R) else F_X3_assign_2_138 a0 a1 a2 x3 x4 x5 y1 I17 J R)) else nm (x4 >>> (x7_45 &&& 31)) fun y26 => nm (y26 &&& (1 : Int32)) fun y27 => (if y27 = (0 : Int32) then nmU (F_X3_take_2 a0 a1 a2 x3 x7_45 x4 x5 I_45 J R) fun y31 I31 _ _ => (if y31 = (0 : Int32) then F_X3_assign_2_83 a0 a1 a2 x3 x4 x5 y1 x6_45 x7_45 k_45 I31 J R x6_45 else F_X3_assign_2_83 a0 a1 a2 x3 x4 x5 y1 x6_45 x7_45 k_45 I31 J R (1 : Int32)) else F_X3_assign_2_83 a0 a1 a2 x3 x4 x5 y1 x6_45 x7_45 k_45 I_45 J R x6_45))
noncomputable def F_X3_assign_2_45 (a0 : Nat) (a1 : Nat) (a2 : Nat) (x3 : Int32) (x4 : Int32) (x5 : Int32) (y1 : Int32) : Nat → hI → hJ → hR → Int32 → Int32 → (Int32 × hU) := fun n => Nat.rec (motive := fun _ => hI → hJ → hR → Int32 → Int32 → (Int32 × hU)) (fun _ _ _ _ _ => default) (fun _ k => B_X3_assign_2_45 a0 a1 a2 x3 x4 x5 y1 k) n
theorem F_X3_assign_2_45_s {a0 : Nat} {a1 : Nat} {a2 : Nat} {x3 : Int32} {x4 : Int32} {x5 : Int32} {y1 : Int32} {n : Nat} {I_45 : hI} {J : hJ} {R : hR} {x6_45 : Int32} {x7_45 : Int32} : F_X3_assign_2_45 a0 a1 a2 x3 x4 x5 y1 (n + 1)  I_45 J R x6_45 x7_45 = B_X3_assign_2_45 a0 a1 a2 x3 x4 x5 y1 (F_X3_assign_2_45 a0 a1 a2 x3 x4 x5 y1 n)  I_45 J R x6_45 x7_45 := rfl
noncomputable def F_X3_assign_2 (a0 : Nat) (a1 : Nat) (a2 : Nat) (x3 : Int32) (x4 : Int32) (x5 : Int32) (I : hI) (J : hJ) (R : hR) : Int32 × hU :=
  nm (I a0 4) fun y1 => (if x5 < y1 then nm (I a2 2) fun y38 => (if x3 < y38 then F_X3_assign_2_45 a0 a1 a2 x3 x4 x5 y1 ((4 - (0 : Int32).toInt).toNat + 1) I J R (0 : Int32) (0 : Int32) else nm (I a1 2) fun y42 => nm (F_J6_bitCount_0f7a4 x4) fun y43 => nm (y42 - y43) fun y44 => nm ((4 : Int32) * y44) fun y45 => nm (x5 + y45) fun y46 => nmU (F_X3_settle a0 y46 I J R) fun y47 I47 _ _ => (y47, (I47, J, R))) else ((0 : Int32), (I, J, R)))
def ms_X3_assign_2 : List Nat := [196, 2752, 2816]
set_option maxHeartbeats 4000000 in
set_option maxRecDepth 100000 in
theorem c_X3_assign_2 {l : Launch} {D : va_G} {cy : Nat → ClassId} {L : List Nat} {C : Nat → Nat} {b0 : Nat} {I : hI} {J : hJ} {R : hR} {a0 : Nat} {a1 : Nat} {a2 : Nat} {x3 : Int32} {x4 : Int32} {x5 : Int32} (oI : OkI L C I) (oR : OkR L C R) (m0 : a0 ∈ L) (k0 : C a0 = 3) (m1 : a1 ∈ L) (k1 : C a1 = 5) (m2 : a2 ∈ L) (k2 : C a2 = 5) (h3 : Rg x3 (2) (2)) : CI l yX3_assign cX3_assign 8 .boolean 6 D cy L C b0 [.ref a0, .ref a1, .ref a2, .int x3, .int x4, .int x5] (I, J, R) (fun r v => Ps L C ms_X3_assign_2 (I, J, R) v ∧ v.2.1 = J ∧ v.2.2 = R ∧ Rg r (0) (1) ∧ F_X3_assign_2 a0 a1 a2 x3 x4 x5 I J R = (r, v)) := by
  refine CI.mkZ (plainFor_of_name (by decide)) (Nat.le_of_ble_eq_true rfl) ?_
  intro p e s m args below meth c ls Q hF ret hH hl
  obtain ⟨hx, hb, -, hml, hown, hts, -⟩ := hF
  have hl : lv_has ls 8 [(0, .ref a0), (1, .ref a1), (2, .ref a2), (3, .int x3), (4, .int x4), (5, .int x5)] := hl
  have hH : Hp D cy L C b0 s s.heap I J R s.heap [] := hH
  have sm : Sm C ms_X3_assign_2 (I, J, R) (I, J, R) := Sm.rf
  obtain ⟨TT0, hT⟩ : ∃ TT0, TT0 = F_X3_assign_2 a0 a1 a2 x3 x4 x5 I J R := ⟨_, rfl⟩
  have hv := hT
  unfold F_X3_assign_2 at hv
  refine lv_iload hx hb dX3_assign_0 (lv_at hl 5 rfl) ?_
  refine lv_aload_n hx hb dX3_assign_2 rfl (lv_at hl 0 rfl) ?_
  refine gf_3_4 hx hb hts hown hH m0 k0 rfl kf_X3_16 dX3_assign_3 ?_
  refine lv_topi (fun y1 ey1 => ?_)
  replace hv := fnS hv ey1
  have L_145 : ∀ (I_145 : hI) (H : Heap) (locs : List Loc) (ls : Array Slot) (x6_145 : Int32), Hp D cy L C b0 s s.heap I_145 J R H locs → TT0 = F_X3_assign_2_145 a0 a1 a2 x3 x4 x5 y1 I_145 J R x6_145 → OkI L C I_145 → Sm C ms_X3_assign_2 (I, J, R) (I_145, J, R) → Rg x6_145 (0) (1) → lv_has ls 8 [(6, .int x6_145)] → W p l e (rmD 6) s m args below meth c H locs 0 0 Q (F0 m 145 ls []) := by
    intro I_145 H locs ls x6_145 hH hv oI sm r6_145 hl
    unfold F_X3_assign_2_145 at hv
    refine lv_iload hx hb dX3_assign_145 (lv_at hl 0 rfl) ?_
    exact ret (x6_145) _ _ _ _ _ _ _ dX3_assign_147 hH (Rg_01 (Rg_w r6_145 (by decide))) ⟨⟨oI, oR, sm⟩, rfl, rfl, r6_145, (hT.symm.trans hv)⟩
  have L_143 : ∀ (I_143 : hI) (H : Heap) (locs : List Loc) (ls : Array Slot) (xs0_143 : Int32), Hp D cy L C b0 s s.heap I_143 J R H locs → TT0 = F_X3_assign_2_143 a0 a1 a2 x3 x4 x5 y1 I_143 J R xs0_143 → OkI L C I_143 → Sm C ms_X3_assign_2 (I, J, R) (I_143, J, R) → Rg xs0_143 (0) (1) → lv_has ls 8 [] → W p l e (rmD 6) s m args below meth c H locs 0 0 Q (F0 m 143 ls [.int xs0_143]) := by
    intro I_143 H locs ls xs0_143 hH hv oI sm rs0_143 hl
    unfold F_X3_assign_2_143 at hv
    refine lv_istore (lv' := [(6, .int xs0_143)]) hx hb dX3_assign_143 hl (by decide) rfl (fun ls hl => ?_)
    exact L_145 I_143 _ _ _ xs0_143 hH hv oI sm rs0_143 (lv_sub hl [0] rfl)
  have L_138 : ∀ (I_138 : hI) (H : Heap) (locs : List Loc) (ls : Array Slot), Hp D cy L C b0 s s.heap I_138 J R H locs → TT0 = F_X3_assign_2_138 a0 a1 a2 x3 x4 x5 y1 I_138 J R → OkI L C I_138 → Sm C ms_X3_assign_2 (I, J, R) (I_138, J, R) → lv_has ls 8 [] → W p l e (rmD 6) s m args below meth c H locs 0 0 Q (F0 m 138 ls []) := by
    intro I_138 H locs ls hH hv oI sm hl
    unfold F_X3_assign_2_138 at hv
    refine lv_iconst (v := 1) hx hb dX3_assign_138 (by decide) ?_
    refine lv_goto (tgt := 143) hx hb dX3_assign_139 (by decide) ?_
    exact L_143 I_138 _ _ _ 1 hH hv oI sm (Rg_w (Rg_c (x := 1) (a := (1)) (b := (1)) (by decide)) (by decide)) (lv_sub hl [] rfl)
  have L_45 : ∀ (n_45 : Nat) (I_45 : hI) (H : Heap) (locs : List Loc) (ls : Array Slot) (x6_45 : Int32) (x7_45 : Int32), (4 - x7_45.toInt).toNat < n_45 → Hp D cy L C b0 s s.heap I_45 J R H locs → TT0 = F_X3_assign_2_45 a0 a1 a2 x3 x4 x5 y1 n_45 I_45 J R x6_45 x7_45 → OkI L C I_45 → Sm C ms_X3_assign_2 (I, J, R) (I_45, J, R) → Rg x3 (2) (2) → Rg x5 (-2147483648) (2147483646) → Rg x6_45 (0) (1) → Rg x7_45 (0) (4) → lv_has ls 8 [(0, .ref a0), (1, .ref a1), (2, .ref a2), (3, .int x3), (4, .int x4), (5, .int x5), (6, .int x6_45), (7, .int x7_45)] → W p l e (rmD 6) s m args below meth c H locs 0 0 Q (F0 m 45 ls []) := by
    intro n_45
    induction n_45 with
    | zero => intro I_45 H locs ls x6_45 x7_45 h; exact absurd h (Nat.not_lt_zero _)
    | succ n_45 ih_45 =>
      intro I_45 H locs ls x6_45 x7_45 hn_45 hH hv oI sm r3_45 r5_45 r6_45 r7_45 hl
      replace hv := hv.trans F_X3_assign_2_45_s
      unfold B_X3_assign_2_45 at hv
      have L_83 : ∀ (I_83 : hI) (H : Heap) (locs : List Loc) (ls : Array Slot) (x6_83 : Int32), Hp D cy L C b0 s s.heap I_83 J R H locs → TT0 = F_X3_assign_2_83 a0 a1 a2 x3 x4 x5 y1 x6_45 x7_45 (F_X3_assign_2_45 a0 a1 a2 x3 x4 x5 y1 n_45) I_83 J R x6_83 → OkI L C I_83 → Sm C ms_X3_assign_2 (I, J, R) (I_83, J, R) → Rg x3 (2) (2) → Rg x5 (-2147483648) (2147483646) → Rg x6_83 (0) (1) → Rg x7_45 (0) (3) → lv_has ls 8 [(0, .ref a0), (1, .ref a1), (2, .ref a2), (3, .int x3), (4, .int x4), (5, .int x5), (6, .int x6_83), (7, .int x7_45)] → W p l e (rmD 6) s m args below meth c H locs 0 0 Q (F0 m 83 ls []) := by
        intro I_83 H locs ls x6_83 hH hv oI sm r3_83 r5_83 r6_83 r7_83 hl
        unfold F_X3_assign_2_83 at hv
        obtain ⟨y2, ey2⟩ : ∃ y : Int32, y = x7_45 + 1 := ⟨_, rfl⟩
        replace hv := fnS hv ey2
        obtain ⟨ty2, ry2⟩ := Rg_addx (a' := (1)) (b' := (4)) (rfl : x7_45.toInt = _) (by decide : Int32.toInt 1 = 1) r7_83 (Rg_c (x := 1) (a := (1)) (b := (1)) (by decide)) (by decide)
        rw [← ey2] at ty2 ry2
        refine lv_iinc (v := y2) (lv' := [(7, .int y2), (0, .ref a0), (1, .ref a1), (2, .ref a2), (3, .int x3), (4, .int x4), (5, .int x5), (6, .int x6_83)]) hx hb dX3_assign_83 hl (k := 7) rfl (by rw [ey2]; rfl) (by decide) rfl (fun ls hl => ?_)
        refine lv_goto (tgt := 45) hx hb dX3_assign_86 (by decide) ?_
        exact ih_45 I_83 _ _ _ x6_83 y2 (lp_up hn_45 ty2 (Rg_ltc r7_83 (by decide))) hH hv oI sm r3_83 r5_83 r6_83 (Rg_w ry2 (by decide)) (lv_sub hl [1, 2, 3, 4, 5, 6, 7, 0] rfl)
      refine lv_iload hx hb dX3_assign_45 (lv_at hl 7 rfl) ?_
      refine lv_aload_n hx hb dX3_assign_47 rfl (lv_at hl 1 rfl) ?_
      refine gf_5_2 hx hb hts hown hH m1 k1 rfl kf_X3_79 dX3_assign_48 ?_
      refine lv_topi (fun y3 ey3 => ?_)
      have ry3 : Rg y3 (0) (4) := by rw [ey3]; exact rf_5_2 oI m1 k1
      replace hv := fnS hv ey3
      refine lv_icmp_ge (tgt := 89) hx hb dX3_assign_51 (by decide) (fun q4 => ?_) (fun q4 => ?_)
      rotate_left
      · replace hv := fnN hv q4
        have r24 : Rg x7_45 (0) (3) := Rg_ult r7_45 (Rg_nle q4) ry3 (by decide)
        have r25 : Rg y3 (1) (4) := Rg_llt ry3 (Rg_nle q4) r7_45 (by decide)
        refine lv_iload hx hb dX3_assign_54 (lv_at hl 4 rfl) ?_
        refine lv_iload hx hb dX3_assign_56 (lv_at hl 7 rfl) ?_
        refine lv_ishr hx hb dX3_assign_58 ?_
        refine lv_topi (fun y26 ey26 => ?_)
        replace hv := fnS hv ey26
        refine lv_iconst (v := 1) hx hb dX3_assign_59 (by decide) ?_
        refine lv_iand hx hb dX3_assign_60 ?_
        refine lv_topi (fun y27 ey27 => ?_)
        replace hv := fnS hv ey27
        have ry27 : Rg y27 0 1 := by rw [ey27]; exact Rg_and1 _
        refine lv_if_ne (tgt := 83) hx hb dX3_assign_61 (by decide) (fun q28 => ?_) (fun q28 => ?_)
        · replace hv := fnN hv q28
          have r29 : Rg y27 (1) (1) := Rg_nelo ry27 (Rg_ne q28) (Rg_c (x := 0) (a := (0)) (b := (0)) (by decide)) (by decide)
          exact L_83 I_45 _ _ _ x6_45 hH hv oI sm r3_45 r5_45 r6_45 r24 (lv_sub hl [0, 1, 2, 3, 4, 5, 6, 7] rfl)
        replace hv := fnP hv q28
        have r30 : Rg y27 (0) (0) := Rg_both ry27 (Rg_eqv q28 (Rg_c (x := 0) (a := (0)) (b := (0)) (by decide))) (by decide)
        refine lv_aload_n hx hb dX3_assign_64 rfl (lv_at hl 0 rfl) ?_
        refine lv_aload_n hx hb dX3_assign_65 rfl (lv_at hl 1 rfl) ?_
        refine lv_aload_n hx hb dX3_assign_66 rfl (lv_at hl 2 rfl) ?_
        refine lv_iload_n hx hb dX3_assign_67 rfl (lv_at hl 3 rfl) ?_
        refine lv_iload hx hb dX3_assign_68 (lv_at hl 7 rfl) ?_
        refine lv_iload hx hb dX3_assign_70 (lv_at hl 4 rfl) ?_
        refine lv_iload hx hb dX3_assign_72 (lv_at hl 5 rfl) ?_
        refine ca_X3_92 hx hb hml hown hts hH (c_X3_take_2 oI oR m0 k0 m1 k1 m2 k2 r3_45 r24) hl.1 m0 k0 rfl (by decide) (Nat.le_of_ble_eq_true rfl) ⟨Nat.zero_le _, Nat.zero_le _⟩ dX3_assign_74 (fun y31 I31 J31 R31 H locs hp hH => ?_)
        obtain ⟨⟨oI, -, sc31⟩, eJ31, eR31, ry31, hf31⟩ := hp
        obtain rfl : J = J31 := eJ31.symm
        obtain rfl : R = R31 := eR31.symm
        replace hv := fnC hv hf31
        have sm : Sm C ms_X3_assign_2 (I, J, R) (I31, J, R) := sm.tr sc31 rfl
        refine lv_if_eq (tgt := 83) hx hb dX3_assign_77 (by decide) (fun q32 => ?_) (fun q32 => ?_)
        · replace hv := fnP hv q32
          have r33 : Rg y31 (0) (0) := Rg_both ry31 (Rg_eqv q32 (Rg_c (x := 0) (a := (0)) (b := (0)) (by decide))) (by decide)
          exact L_83 I31 _ _ _ x6_45 hH hv oI sm r3_45 r5_45 r6_45 r24 (lv_sub hl [0, 1, 2, 3, 4, 5, 6, 7] rfl)
        replace hv := fnN hv q32
        have r34 : Rg y31 (1) (1) := Rg_nelo ry31 (Rg_ne q32) (Rg_c (x := 0) (a := (0)) (b := (0)) (by decide)) (by decide)
        refine lv_iconst (v := 1) hx hb dX3_assign_80 (by decide) ?_
        refine lv_istore (lv' := [(6, .int 1), (0, .ref a0), (1, .ref a1), (2, .ref a2), (3, .int x3), (4, .int x4), (5, .int x5), (7, .int x7_45)]) hx hb dX3_assign_81 hl (by decide) rfl (fun ls hl => ?_)
        exact L_83 I31 _ _ _ 1 hH hv oI sm r3_45 r5_45 (Rg_w (Rg_c (x := 1) (a := (1)) (b := (1)) (by decide)) (by decide)) r24 (lv_sub hl [1, 2, 3, 4, 5, 6, 0, 7] rfl)
      replace hv := fnP hv q4
      refine lv_aload_n hx hb dX3_assign_89 rfl (lv_at hl 0 rfl) ?_
      obtain ⟨b5, mb5, vb5, kb5⟩ := rf_3_2 oR m0 k0
      replace hv := fnR hv vb5
      refine gf_3_2 vb5 hx hb hts hown hH m0 k0 rfl kf_X3_34 dX3_assign_90 ?_
      obtain ⟨b6, mb6, vb6, kb6⟩ := rf_2_0 oR mb5 kb5
      replace hv := fnR hv vb6
      refine gf_2_0 vb6 hx hb hts hown hH mb5 kb5 rfl kf_X3_96 dX3_assign_93 ?_
      refine lv_aload_n hx hb dX3_assign_96 rfl (lv_at hl 2 rfl) ?_
      obtain ⟨b7, mb7, vb7, kb7⟩ := rf_5_3 oR m2 k2
      replace hv := fnR hv vb7
      refine gf_5_3 vb7 hx hb hts hown hH m2 k2 rfl kf_X3_102 dX3_assign_97 ?_
      refine lv_iload_n hx hb dX3_assign_100 rfl (lv_at hl 3 rfl) ?_
      refine ld_54 hx hb hH mb7 kb7 (Rg_in r3_45 (by decide)) dX3_assign_101 ?_
      refine lv_topi (fun y8 ey8 => ?_)
      have ry8 : Rg y8 (0) (6) := by rw [ey8]; exact rd_54 oI mb7 kb7 (Rg_in r3_45 (by decide))
      replace hv := fnS hv ey8
      refine ld_41 hx hb hH mb6 kb6 (Rg_in ry8 (by decide)) dX3_assign_102 ?_
      refine lv_topi (fun y9 ey9 => ?_)
      have ry9 : Rg y9 (0) (1) := by rw [ey9]; exact rd_41 oI mb6 kb6 (Rg_in ry8 (by decide))
      replace hv := fnS hv ey9
      refine lv_if_eq (tgt := 145) hx hb dX3_assign_103 (by decide) (fun q10 => ?_) (fun q10 => ?_)
      · replace hv := fnP hv q10
        have r11 : Rg y9 (0) (0) := Rg_both ry9 (Rg_eqv q10 (Rg_c (x := 0) (a := (0)) (b := (0)) (by decide))) (by decide)
        exact L_145 I_45 _ _ _ x6_45 hH hv oI sm r6_45 (lv_sub hl [6] rfl)
      replace hv := fnN hv q10
      have r12 : Rg y9 (1) (1) := Rg_nelo ry9 (Rg_ne q10) (Rg_c (x := 0) (a := (0)) (b := (0)) (by decide)) (by decide)
      refine lv_aload_n hx hb dX3_assign_106 rfl (lv_at hl 0 rfl) ?_
      obtain ⟨b13, mb13, vb13, kb13⟩ := rf_3_3 oR m0 k0
      replace hv := fnR hv vb13
      refine gf_3_3 vb13 hx hb hts hown hH m0 k0 rfl kf_X3_9 dX3_assign_107 ?_
      refine lv_iload_n hx hb dX3_assign_110 rfl (lv_at hl 3 rfl) ?_
      refine lv_bipush (v := 9) hx hb dX3_assign_111 (by decide) ?_
      refine st_43 hx hb hH mb13 kb13 (Rg_in r3_45 (by decide)) dX3_assign_113 (fun I14 H locs eI14 hH => ?_)
      replace hv := fnS hv eI14
      have oI : OkI L C I14 := by rw [eI14]; exact wr_43 oI kb13 (Rg_w (Rg_c (x := 9) (a := (9)) (b := (9)) (by decide)) (by decide)) (by first | exact Or.inl (by decide) | exact Or.inr (by decide))
      have sm : Sm C ms_X3_assign_2 (I, J, R) (I14, J, R) := by rw [eI14]; exact sm.stI kb13 (mC_arr (by decide) rfl)
      refine lv_aload_n hx hb dX3_assign_114 rfl (lv_at hl 0 rfl) ?_
      refine lv_aload_n hx hb dX3_assign_115 rfl (lv_at hl 1 rfl) ?_
      refine lv_aload_n hx hb dX3_assign_116 rfl (lv_at hl 2 rfl) ?_
      refine lv_iload_n hx hb dX3_assign_117 rfl (lv_at hl 3 rfl) ?_
      refine lv_iconst (v := 1) hx hb dX3_assign_118 (by decide) ?_
      refine lv_iadd hx hb dX3_assign_119 ?_
      refine lv_topi (fun y15 ey15 => ?_)
      replace hv := fnS hv ey15
      obtain ⟨ty15, ry15⟩ := Rg_addx (a' := (3)) (b' := (3)) (rfl : x3.toInt = _) (by decide : Int32.toInt 1 = 1) r3_45 (Rg_c (x := 1) (a := (1)) (b := (1)) (by decide)) (by decide)
      rw [← ey15] at ty15 ry15
      refine lv_iload hx hb dX3_assign_120 (lv_at hl 4 rfl) ?_
      refine lv_iload hx hb dX3_assign_122 (lv_at hl 5 rfl) ?_
      refine lv_bipush (v := 7) hx hb dX3_assign_124 (by decide) ?_
      refine lv_iadd hx hb dX3_assign_126 ?_
      refine lv_topi (fun y16 ey16 => ?_)
      replace hv := fnS hv ey16
      refine ca_X3_51 hx hb hml hown hts hH (c_X3_assign_3 oI oR m0 k0 m1 k1 m2 k2 ry15) hl.1 m0 k0 rfl (by decide) (Nat.le_of_ble_eq_true rfl) ⟨Nat.zero_le _, Nat.zero_le _⟩ dX3_assign_127 (fun y17 I17 J17 R17 H locs hp hH => ?_)
      obtain ⟨⟨oI, -, sc17⟩, eJ17, eR17, ry17, hf17⟩ := hp
      obtain rfl : J = J17 := eJ17.symm
      obtain rfl : R = R17 := eR17.symm
      replace hv := fnC hv hf17
      have sm : Sm C ms_X3_assign_2 (I, J, R) (I17, J, R) := sm.tr sc17 rfl
      refine lv_if_ne (tgt := 138) hx hb dX3_assign_130 (by decide) (fun q18 => ?_) (fun q18 => ?_)
      · replace hv := fnN hv q18
        have r19 : Rg y17 (1) (1) := Rg_nelo ry17 (Rg_ne q18) (Rg_c (x := 0) (a := (0)) (b := (0)) (by decide)) (by decide)
        exact L_138 I17 _ _ _ hH hv oI sm (lv_sub hl [] rfl)
      replace hv := fnP hv q18
      have r20 : Rg y17 (0) (0) := Rg_both ry17 (Rg_eqv q18 (Rg_c (x := 0) (a := (0)) (b := (0)) (by decide))) (by decide)
      refine lv_iload hx hb dX3_assign_133 (lv_at hl 6 rfl) ?_
      refine lv_if_eq (tgt := 142) hx hb dX3_assign_135 (by decide) (fun q21 => ?_) (fun q21 => ?_)
      rotate_left
      · replace hv := fnN hv q21
        have r23 : Rg x6_45 (1) (1) := Rg_nelo r6_45 (Rg_ne q21) (Rg_c (x := 0) (a := (0)) (b := (0)) (by decide)) (by decide)
        exact L_138 I17 _ _ _ hH hv oI sm (lv_sub hl [] rfl)
      replace hv := fnP hv q21
      have r22 : Rg x6_45 (0) (0) := Rg_both r6_45 (Rg_eqv q21 (Rg_c (x := 0) (a := (0)) (b := (0)) (by decide))) (by decide)
      refine lv_iconst (v := 0) hx hb dX3_assign_142 (by decide) ?_
      exact L_143 I17 _ _ _ 0 hH hv oI sm (Rg_w (Rg_c (x := 0) (a := (0)) (b := (0)) (by decide)) (by decide)) (lv_sub hl [] rfl)
  refine lv_icmp_lt (tgt := 11) hx hb dX3_assign_6 (by decide) (fun q35 => ?_) (fun q35 => ?_)
  rotate_left
  · replace hv := fnN hv q35
    refine lv_iconst (v := 0) hx hb dX3_assign_9 (by decide) ?_
    exact ret (0) _ _ _ _ _ _ _ dX3_assign_10 hH (Rg_01 (Rg_w (Rg_c (x := 0) (a := (0)) (b := (0)) (by decide)) (by decide))) ⟨⟨oI, oR, sm⟩, rfl, rfl, (Rg_w (Rg_c (x := 0) (a := (0)) (b := (0)) (by decide)) (by decide)), (hT.symm.trans hv)⟩
  replace hv := fnP hv q35
  have r36 : Rg x5 (-2147483648) (2147483646) := Rg_ult (Rg_any x5) (Rg_lt q35) (Rg_any y1) (by decide)
  have r37 : Rg y1 (-2147483647) (2147483647) := Rg_llt (Rg_any y1) (Rg_lt q35) (Rg_any x5) (by decide)
  refine lv_iload_n hx hb dX3_assign_11 rfl (lv_at hl 3 rfl) ?_
  refine lv_aload_n hx hb dX3_assign_12 rfl (lv_at hl 2 rfl) ?_
  refine gf_5_2 hx hb hts hown hH m2 k2 rfl kf_X3_79 dX3_assign_13 ?_
  refine lv_topi (fun y38 ey38 => ?_)
  have ry38 : Rg y38 (0) (4) := by rw [ey38]; exact rf_5_2 oI m2 k2
  replace hv := fnS hv ey38
  refine lv_icmp_lt (tgt := 39) hx hb dX3_assign_16 (by decide) (fun q39 => ?_) (fun q39 => ?_)
  · replace hv := fnP hv q39
    have r40 : Rg y38 (3) (4) := Rg_llt ry38 (Rg_lt q39) h3 (by decide)
    refine lv_iconst (v := 0) hx hb dX3_assign_39 (by decide) ?_
    refine lv_istore (lv' := [(6, .int 0), (0, .ref a0), (1, .ref a1), (2, .ref a2), (3, .int x3), (4, .int x4), (5, .int x5)]) hx hb dX3_assign_40 hl (by decide) rfl (fun ls hl => ?_)
    refine lv_iconst (v := 0) hx hb dX3_assign_42 (by decide) ?_
    refine lv_istore (lv' := [(7, .int 0), (6, .int 0), (0, .ref a0), (1, .ref a1), (2, .ref a2), (3, .int x3), (4, .int x4), (5, .int x5)]) hx hb dX3_assign_43 hl (by decide) rfl (fun ls hl => ?_)
    exact L_45 ((4 - (0 : Int32).toInt).toNat + 1) I _ _ _ 0 0 (Nat.lt_succ_self _) hH hv oI sm h3 r36 (Rg_w (Rg_c (x := 0) (a := (0)) (b := (0)) (by decide)) (by decide)) (Rg_w (Rg_c (x := 0) (a := (0)) (b := (0)) (by decide)) (by decide)) (lv_sub hl [2, 3, 4, 5, 6, 7, 1, 0] rfl)
  replace hv := fnN hv q39
  have r41 : Rg y38 (0) (2) := Rg_ule ry38 (Rg_nlt q39) h3 (by decide)
  refine lv_aload_n hx hb dX3_assign_19 rfl (lv_at hl 0 rfl) ?_
  refine lv_iload hx hb dX3_assign_20 (lv_at hl 5 rfl) ?_
  refine lv_iconst (v := 4) hx hb dX3_assign_22 (by decide) ?_
  refine lv_aload_n hx hb dX3_assign_23 rfl (lv_at hl 1 rfl) ?_
  refine gf_5_2 hx hb hts hown hH m1 k1 rfl kf_X3_79 dX3_assign_24 ?_
  refine lv_topi (fun y42 ey42 => ?_)
  have ry42 : Rg y42 (0) (4) := by rw [ey42]; exact rf_5_2 oI m1 k1
  replace hv := fnS hv ey42
  refine lv_iload hx hb dX3_assign_27 (lv_at hl 4 rfl) ?_
  refine ca_X3_82 hx hb hml hown hts hH (c_J6_bitCount_0f7a4 ) hl.1 (by decide) (Nat.le_of_ble_eq_true rfl) ⟨Nat.zero_le _, Nat.zero_le _⟩ dX3_assign_29 (fun y43 I43 J43 R43 H locs hp hH => ?_)
  obtain ⟨eI43, eJ43, eR43, hf43⟩ := hp
  obtain rfl : I = I43 := eI43.symm
  obtain rfl : J = J43 := eJ43.symm
  obtain rfl : R = R43 := eR43.symm
  replace hv := fnS hv hf43.symm
  refine lv_isub hx hb dX3_assign_32 ?_
  refine lv_topi (fun y44 ey44 => ?_)
  replace hv := fnS hv ey44
  refine lv_imul hx hb dX3_assign_33 ?_
  refine lv_topi (fun y45 ey45 => ?_)
  replace hv := fnS hv ey45
  refine lv_iadd hx hb dX3_assign_34 ?_
  refine lv_topi (fun y46 ey46 => ?_)
  replace hv := fnS hv ey46
  refine ca_X3_88 hx hb hml hown hts hH (c_X3_settle oI oR m0 k0) hl.1 m0 k0 rfl (by decide) (Nat.le_of_ble_eq_true rfl) ⟨Nat.zero_le _, Nat.zero_le _⟩ dX3_assign_35 (fun y47 I47 J47 R47 H locs hp hH => ?_)
  obtain ⟨⟨oI, -, sc47⟩, eJ47, eR47, ry47, hf47⟩ := hp
  obtain rfl : J = J47 := eJ47.symm
  obtain rfl : R = R47 := eR47.symm
  replace hv := fnC hv hf47
  have sm : Sm C ms_X3_assign_2 (I, J, R) (I47, J, R) := sm.tr sc47 rfl
  exact ret (y47) _ _ _ _ _ _ _ dX3_assign_38 hH (Rg_01 (Rg_w ry47 (by decide))) ⟨⟨oI, oR, sm⟩, rfl, rfl, ry47, (hT.symm.trans hv)⟩
noncomputable def F_X3_take_1_49 (a0 : Nat) (a1 : Nat) (a2 : Nat) (x3 : Int32) (x4 : Int32) (x5 : Int32) (x6 : Int32) (y6 : Int32) (y3 : Int32) (y5 : Int32) (b1 : Nat) (b2 : Nat) (b4 : Nat) (I_49 : hI) (J : hJ) (R : hR) (xs0_49 : Int32) : Int32 × hU :=
  nm (x3 + (1 : Int32)) fun y7 => nm ((1 : Int32) <<< (x4 &&& 31)) fun y8 => nm (x5 ||| y8) fun y9 => nm (x6 + y6) fun y10 => nm (y10 + xs0_49) fun y11 => nmU (F_X3_assign_2 a0 a1 a2 y7 y9 y11 I_49 J R) fun y12 I12 _ _ => (y12, (I12, J, R))
noncomputable def F_X3_take_1 (a0 : Nat) (a1 : Nat) (a2 : Nat) (x3 : Int32) (x4 : Int32) (x5 : Int32) (x6 : Int32) (I : hI) (J : hJ) (R : hR) : Int32 × hU :=
  nm ((R a0 0).getD 0) fun b1 => nm ((R a1 3).getD 0) fun b2 => nm (I b2 (Int32.toNatClampNeg x4)) fun y3 => nm ((R a2 3).getD 0) fun b4 => nm (I b4 (Int32.toNatClampNeg x3)) fun y5 => nm (F_X6_costBetween b1 y3 y5 I J R) fun y6 => (if y6 = (-1 : Int32) then ((0 : Int32), (I, J, R)) else nm ((R a0 3).getD 0) fun b14 => nm (u2 I b14 (Int32.toNatClampNeg x3) x4) fun I15 => (if x4 = x3 then F_X3_take_1_49 a0 a1 a2 x3 x4 x5 x6 y6 y3 y5 b1 b2 b4 I15 J R (0 : Int32) else F_X3_take_1_49 a0 a1 a2 x3 x4 x5 x6 y6 y3 y5 b1 b2 b4 I15 J R (1 : Int32)))
def ms_X3_take_1 : List Nat := [196, 2752, 2816]
set_option maxHeartbeats 4000000 in
set_option maxRecDepth 100000 in
theorem c_X3_take_1 {l : Launch} {D : va_G} {cy : Nat → ClassId} {L : List Nat} {C : Nat → Nat} {b0 : Nat} {I : hI} {J : hJ} {R : hR} {a0 : Nat} {a1 : Nat} {a2 : Nat} {x3 : Int32} {x4 : Int32} {x5 : Int32} {x6 : Int32} (oI : OkI L C I) (oR : OkR L C R) (m0 : a0 ∈ L) (k0 : C a0 = 3) (m1 : a1 ∈ L) (k1 : C a1 = 5) (m2 : a2 ∈ L) (k2 : C a2 = 5) (h3 : Rg x3 (1) (1)) (h4 : Rg x4 (0) (3)) : CI l yX3_take cX3_take 9 .boolean 7 D cy L C b0 [.ref a0, .ref a1, .ref a2, .int x3, .int x4, .int x5, .int x6] (I, J, R) (fun r v => Ps L C ms_X3_take_1 (I, J, R) v ∧ v.2.1 = J ∧ v.2.2 = R ∧ Rg r (0) (1) ∧ F_X3_take_1 a0 a1 a2 x3 x4 x5 x6 I J R = (r, v)) := by
  refine CI.mkZ (plainFor_of_name (by decide)) (Nat.le_of_ble_eq_true rfl) ?_
  intro p e s m args below meth c ls Q hF ret hH hl
  obtain ⟨hx, hb, -, hml, hown, hts, -⟩ := hF
  have hl : lv_has ls 9 [(0, .ref a0), (1, .ref a1), (2, .ref a2), (3, .int x3), (4, .int x4), (5, .int x5), (6, .int x6)] := hl
  have hH : Hp D cy L C b0 s s.heap I J R s.heap [] := hH
  have sm : Sm C ms_X3_take_1 (I, J, R) (I, J, R) := Sm.rf
  obtain ⟨TT0, hT⟩ : ∃ TT0, TT0 = F_X3_take_1 a0 a1 a2 x3 x4 x5 x6 I J R := ⟨_, rfl⟩
  have hv := hT
  unfold F_X3_take_1 at hv
  refine lv_aload_n hx hb dX3_take_0 rfl (lv_at hl 0 rfl) ?_
  obtain ⟨b1, mb1, vb1, kb1⟩ := rf_3_0 oR m0 k0
  replace hv := fnR hv vb1
  refine gf_3_0 vb1 hx hb hts hown hH m0 k0 rfl kf_X3_26 dX3_take_1 ?_
  refine lv_aload_n hx hb dX3_take_4 rfl (lv_at hl 1 rfl) ?_
  obtain ⟨b2, mb2, vb2, kb2⟩ := rf_5_3 oR m1 k1
  replace hv := fnR hv vb2
  refine gf_5_3 vb2 hx hb hts hown hH m1 k1 rfl kf_X3_102 dX3_take_5 ?_
  refine lv_iload hx hb dX3_take_8 (lv_at hl 4 rfl) ?_
  refine ld_54 hx hb hH mb2 kb2 (Rg_in h4 (by decide)) dX3_take_10 ?_
  refine lv_topi (fun y3 ey3 => ?_)
  have ry3 : Rg y3 (0) (6) := by rw [ey3]; exact rd_54 oI mb2 kb2 (Rg_in h4 (by decide))
  replace hv := fnS hv ey3
  refine lv_aload_n hx hb dX3_take_11 rfl (lv_at hl 2 rfl) ?_
  obtain ⟨b4, mb4, vb4, kb4⟩ := rf_5_3 oR m2 k2
  replace hv := fnR hv vb4
  refine gf_5_3 vb4 hx hb hts hown hH m2 k2 rfl kf_X3_102 dX3_take_12 ?_
  refine lv_iload_n hx hb dX3_take_15 rfl (lv_at hl 3 rfl) ?_
  refine ld_54 hx hb hH mb4 kb4 (Rg_in h3 (by decide)) dX3_take_16 ?_
  refine lv_topi (fun y5 ey5 => ?_)
  have ry5 : Rg y5 (0) (6) := by rw [ey5]; exact rd_54 oI mb4 kb4 (Rg_in h3 (by decide))
  replace hv := fnS hv ey5
  refine ca_X3_73 hx hb hml hown hts hH (c_X6_costBetween oI oR mb1 kb1 ry3 ry5) hl.1 mb1 kb1 rfl (by decide) (Nat.le_of_ble_eq_true rfl) ⟨Nat.zero_le _, Nat.zero_le _⟩ dX3_take_17 (fun y6 I6 J6 R6 H locs hp hH => ?_)
  obtain ⟨eI6, eJ6, eR6, hf6⟩ := hp
  obtain rfl : I = I6 := eI6.symm
  obtain rfl : J = J6 := eJ6.symm
  obtain rfl : R = R6 := eR6.symm
  replace hv := fnS hv hf6.symm
  refine lv_istore (lv' := [(7, .int y6), (0, .ref a0), (1, .ref a1), (2, .ref a2), (3, .int x3), (4, .int x4), (5, .int x5), (6, .int x6)]) hx hb dX3_take_20 hl (by decide) rfl (fun ls hl => ?_)
  refine lv_iload hx hb dX3_take_22 (lv_at hl 0 rfl) ?_
  refine lv_iconst (v := (-1)) hx hb dX3_take_24 (by decide) ?_
  have L_49 : ∀ (I_49 : hI) (H : Heap) (locs : List Loc) (ls : Array Slot) (xs0_49 : Int32), Hp D cy L C b0 s s.heap I_49 J R H locs → TT0 = F_X3_take_1_49 a0 a1 a2 x3 x4 x5 x6 y6 y3 y5 b1 b2 b4 I_49 J R xs0_49 → OkI L C I_49 → Sm C ms_X3_take_1 (I, J, R) (I_49, J, R) → Rg xs0_49 (0) (1) → Rg x3 (1) (1) → Rg x4 (0) (3) → lv_has ls 9 [(0, .ref a0), (1, .ref a1), (2, .ref a2), (3, .int x3), (4, .int x4), (5, .int x5), (6, .int x6), (7, .int y6)] → W p l e (rmD 7) s m args below meth c H locs 0 0 Q (F0 m 49 ls [.int xs0_49]) := by
    intro I_49 H locs ls xs0_49 hH hv oI sm rs0_49 r3_49 r4_49 hl
    unfold F_X3_take_1_49 at hv
    refine lv_istore (lv' := [(8, .int xs0_49), (0, .ref a0), (1, .ref a1), (2, .ref a2), (3, .int x3), (4, .int x4), (5, .int x5), (6, .int x6), (7, .int y6)]) hx hb dX3_take_49 hl (by decide) rfl (fun ls hl => ?_)
    refine lv_aload_n hx hb dX3_take_51 rfl (lv_at hl 1 rfl) ?_
    refine lv_aload_n hx hb dX3_take_52 rfl (lv_at hl 2 rfl) ?_
    refine lv_aload_n hx hb dX3_take_53 rfl (lv_at hl 3 rfl) ?_
    refine lv_iload_n hx hb dX3_take_54 rfl (lv_at hl 4 rfl) ?_
    refine lv_iconst (v := 1) hx hb dX3_take_55 (by decide) ?_
    refine lv_iadd hx hb dX3_take_56 ?_
    refine lv_topi (fun y7 ey7 => ?_)
    replace hv := fnS hv ey7
    obtain ⟨ty7, ry7⟩ := Rg_addx (a' := (2)) (b' := (2)) (rfl : x3.toInt = _) (by decide : Int32.toInt 1 = 1) r3_49 (Rg_c (x := 1) (a := (1)) (b := (1)) (by decide)) (by decide)
    rw [← ey7] at ty7 ry7
    refine lv_iload hx hb dX3_take_57 (lv_at hl 6 rfl) ?_
    refine lv_iconst (v := 1) hx hb dX3_take_59 (by decide) ?_
    refine lv_iload hx hb dX3_take_60 (lv_at hl 5 rfl) ?_
    refine lv_ishl hx hb dX3_take_62 ?_
    refine lv_topi (fun y8 ey8 => ?_)
    replace hv := fnS hv ey8
    refine lv_ior hx hb dX3_take_63 ?_
    refine lv_topi (fun y9 ey9 => ?_)
    replace hv := fnS hv ey9
    refine lv_iload hx hb dX3_take_64 (lv_at hl 7 rfl) ?_
    refine lv_iload hx hb dX3_take_66 (lv_at hl 8 rfl) ?_
    refine lv_iadd hx hb dX3_take_68 ?_
    refine lv_topi (fun y10 ey10 => ?_)
    replace hv := fnS hv ey10
    refine lv_iload hx hb dX3_take_69 (lv_at hl 0 rfl) ?_
    refine lv_iadd hx hb dX3_take_71 ?_
    refine lv_topi (fun y11 ey11 => ?_)
    replace hv := fnS hv ey11
    refine ca_X3_51 hx hb hml hown hts hH (c_X3_assign_2 oI oR m0 k0 m1 k1 m2 k2 ry7) hl.1 m0 k0 rfl (by decide) (Nat.le_of_ble_eq_true rfl) ⟨Nat.zero_le _, Nat.zero_le _⟩ dX3_take_72 (fun y12 I12 J12 R12 H locs hp hH => ?_)
    obtain ⟨⟨oI, -, sc12⟩, eJ12, eR12, ry12, hf12⟩ := hp
    obtain rfl : J = J12 := eJ12.symm
    obtain rfl : R = R12 := eR12.symm
    replace hv := fnC hv hf12
    have sm : Sm C ms_X3_take_1 (I, J, R) (I12, J, R) := sm.tr sc12 rfl
    exact ret (y12) _ _ _ _ _ _ _ dX3_take_75 hH (Rg_01 (Rg_w ry12 (by decide))) ⟨⟨oI, oR, sm⟩, rfl, rfl, ry12, (hT.symm.trans hv)⟩
  refine lv_icmp_ne (tgt := 30) hx hb dX3_take_25 (by decide) (fun q13 => ?_) (fun q13 => ?_)
  rotate_left
  · replace hv := fnP hv q13
    have r18 : Rg y6 (-1) (-1) := Rg_both (Rg_any y6) (Rg_eqv q13 (Rg_c (x := (-1)) (a := (-1)) (b := (-1)) (by decide))) (by decide)
    refine lv_iconst (v := 0) hx hb dX3_take_28 (by decide) ?_
    exact ret (0) _ _ _ _ _ _ _ dX3_take_29 hH (Rg_01 (Rg_w (Rg_c (x := 0) (a := (0)) (b := (0)) (by decide)) (by decide))) ⟨⟨oI, oR, sm⟩, rfl, rfl, (Rg_w (Rg_c (x := 0) (a := (0)) (b := (0)) (by decide)) (by decide)), (hT.symm.trans hv)⟩
  replace hv := fnN hv q13
  refine lv_aload_n hx hb dX3_take_30 rfl (lv_at hl 1 rfl) ?_
  obtain ⟨b14, mb14, vb14, kb14⟩ := rf_3_3 oR m0 k0
  replace hv := fnR hv vb14
  refine gf_3_3 vb14 hx hb hts hown hH m0 k0 rfl kf_X3_9 dX3_take_31 ?_
  refine lv_iload_n hx hb dX3_take_34 rfl (lv_at hl 4 rfl) ?_
  refine lv_iload hx hb dX3_take_35 (lv_at hl 5 rfl) ?_
  refine st_43 hx hb hH mb14 kb14 (Rg_in h3 (by decide)) dX3_take_37 (fun I15 H locs eI15 hH => ?_)
  replace hv := fnS hv eI15
  have oI : OkI L C I15 := by rw [eI15]; exact wr_43 oI kb14 (Rg_w h4 (by decide)) (Or.inl (Rg_w (a' := (0)) (b' := (3)) h4 (by decide)).2)
  have sm : Sm C ms_X3_take_1 (I, J, R) (I15, J, R) := by rw [eI15]; exact sm.stI kb14 (mC_arr (by decide) rfl)
  refine lv_iload hx hb dX3_take_38 (lv_at hl 5 rfl) ?_
  refine lv_iload_n hx hb dX3_take_40 rfl (lv_at hl 4 rfl) ?_
  refine lv_icmp_ne (tgt := 48) hx hb dX3_take_41 (by decide) (fun q16 => ?_) (fun q16 => ?_)
  · replace hv := fnN hv q16
    refine lv_iconst (v := 1) hx hb dX3_take_48 (by decide) ?_
    exact L_49 I15 _ _ _ 1 hH hv oI sm (Rg_w (Rg_c (x := 1) (a := (1)) (b := (1)) (by decide)) (by decide)) h3 h4 (lv_sub hl [1, 2, 3, 4, 5, 6, 7, 0] rfl)
  replace hv := fnP hv q16
  have r17 : Rg x4 (1) (1) := Rg_both h4 (Rg_eqv q16 h3) (by decide)
  refine lv_iconst (v := 0) hx hb dX3_take_44 (by decide) ?_
  refine lv_goto (tgt := 49) hx hb dX3_take_45 (by decide) ?_
  exact L_49 I15 _ _ _ 0 hH hv oI sm (Rg_w (Rg_c (x := 0) (a := (0)) (b := (0)) (by decide)) (by decide)) h3 (Rg_w r17 (by decide)) (lv_sub hl [1, 2, 3, 4, 5, 6, 7, 0] rfl)
noncomputable def F_X3_assign_1_145 (a0 : Nat) (a1 : Nat) (a2 : Nat) (x3 : Int32) (x4 : Int32) (x5 : Int32) (y1 : Int32) (I_145 : hI) (J : hJ) (R : hR) (x6_145 : Int32) : Int32 × hU :=
  (x6_145, (I_145, J, R))
noncomputable def F_X3_assign_1_143 (a0 : Nat) (a1 : Nat) (a2 : Nat) (x3 : Int32) (x4 : Int32) (x5 : Int32) (y1 : Int32) (I_143 : hI) (J : hJ) (R : hR) (xs0_143 : Int32) : Int32 × hU :=
  F_X3_assign_1_145 a0 a1 a2 x3 x4 x5 y1 I_143 J R xs0_143
noncomputable def F_X3_assign_1_138 (a0 : Nat) (a1 : Nat) (a2 : Nat) (x3 : Int32) (x4 : Int32) (x5 : Int32) (y1 : Int32) (I_138 : hI) (J : hJ) (R : hR) : Int32 × hU :=
  F_X3_assign_1_143 a0 a1 a2 x3 x4 x5 y1 I_138 J R (1 : Int32)
noncomputable def F_X3_assign_1_83 (a0 : Nat) (a1 : Nat) (a2 : Nat) (x3 : Int32) (x4 : Int32) (x5 : Int32) (y1 : Int32) (x6_45 : Int32) (x7_45 : Int32) (k_45 : hI → hJ → hR → Int32 → Int32 → (Int32 × hU)) (I_83 : hI) (J : hJ) (R : hR) (x6_83 : Int32) : Int32 × hU :=
  nm (x7_45 + (1 : Int32)) fun y2 => k_45 I_83 J R x6_83 y2
noncomputable def B_X3_assign_1_45 (a0 : Nat) (a1 : Nat) (a2 : Nat) (x3 : Int32) (x4 : Int32) (x5 : Int32) (y1 : Int32) (k_45 : hI → hJ → hR → Int32 → Int32 → (Int32 × hU)) (I_45 : hI) (J : hJ) (R : hR) (x6_45 : Int32) (x7_45 : Int32) : Int32 × hU :=
  nm (I_45 a1 2) fun y3 => (if y3 ≤ x7_45 then nm ((R a0 2).getD 0) fun b5 => nm ((R b5 0).getD 0) fun b6 => nm ((R a2 3).getD 0) fun b7 => nm (I_45 b7 (Int32.toNatClampNeg x3)) fun y8 => nm (I_45 b6 (Int32.toNatClampNeg y8)) fun y9 => (if y9 = (0 : Int32) then F_X3_assign_1_145 a0 a1 a2 x3 x4 x5 y1 I_45 J R x6_45 else nm ((R a0 3).getD 0) fun b13 => nm (u2 I_45 b13 (Int32.toNatClampNeg x3) (9 : Int32)) fun I14 => nm (x3 + (1 : Int32)) fun y15 => nm (x5 + (7 : Int32)) fun y16 => nmU (F_X3_assign_2 a0 a1 a2 y15 x4 y16 I14 J R) fun y17 I17 _ _ => (if y17 = (0 : Int32) then (if x6_45 = (0 : Int32) then F_X3_assign_1_143 a0 a1 a2 x3 x4 x5 y1 I17 J R (0 : Int32) else F_X3_assign_1_138 a0 a1 a2 x3 x4 x5 y1 I17 J R) else F_X3_assign_1_138 a0 a1 a2 x3 x4 x5 y1 I17 J R)) else nm (x4 >>> (x7_45 &&& 31)) fun y26 => nm (y26 &&& (1 : Int32)) fun y27 => (if y27 = (0 : Int32) then nmU (F_X3_take_1 a0 a1 a2 x3 x7_45 x4 x5 I_45 J R) fun y31 I31 _ _ => (if y31 = (0 : Int32) then F_X3_assign_1_83 a0 a1 a2 x3 x4 x5 y1 x6_45 x7_45 k_45 I31 J R x6_45 else F_X3_assign_1_83 a0 a1 a2 x3 x4 x5 y1 x6_45 x7_45 k_45 I31 J R (1 : Int32)) else F_X3_assign_1_83 a0 a1 a2 x3 x4 x5 y1 x6_45 x7_45 k_45 I_45 J R x6_45))
noncomputable def F_X3_assign_1_45 (a0 : Nat) (a1 : Nat) (a2 : Nat) (x3 : Int32) (x4 : Int32) (x5 : Int32) (y1 : Int32) : Nat → hI → hJ → hR → Int32 → Int32 → (Int32 × hU) := fun n => Nat.rec (motive := fun _ => hI → hJ → hR → Int32 → Int32 → (Int32 × hU)) (fun _ _ _ _ _ => default) (fun _ k => B_X3_assign_1_45 a0 a1 a2 x3 x4 x5 y1 k) n
theorem F_X3_assign_1_45_s {a0 : Nat} {a1 : Nat} {a2 : Nat} {x3 : Int32} {x4 : Int32} {x5 : Int32} {y1 : Int32} {n : Nat} {I_45 : hI} {J : hJ} {R : hR} {x6_45 : Int32} {x7_45 : Int32} : F_X3_assign_1_45 a0 a1 a2 x3 x4 x5 y1 (n + 1)  I_45 J R x6_45 x7_45 = B_X3_assign_1_45 a0 a1 a2 x3 x4 x5 y1 (F_X3_assign_1_45 a0 a1 a2 x3 x4 x5 y1 n)  I_45 J R x6_45 x7_45 := rfl
noncomputable def F_X3_assign_1 (a0 : Nat) (a1 : Nat) (a2 : Nat) (x3 : Int32) (x4 : Int32) (x5 : Int32) (I : hI) (J : hJ) (R : hR) : Int32 × hU :=
  nm (I a0 4) fun y1 => (if x5 < y1 then nm (I a2 2) fun y38 => (if x3 < y38 then F_X3_assign_1_45 a0 a1 a2 x3 x4 x5 y1 ((4 - (0 : Int32).toInt).toNat + 1) I J R (0 : Int32) (0 : Int32) else nm (I a1 2) fun y42 => nm (F_J6_bitCount_0f7a4 x4) fun y43 => nm (y42 - y43) fun y44 => nm ((4 : Int32) * y44) fun y45 => nm (x5 + y45) fun y46 => nmU (F_X3_settle a0 y46 I J R) fun y47 I47 _ _ => (y47, (I47, J, R))) else ((0 : Int32), (I, J, R)))
def ms_X3_assign_1 : List Nat := [196, 2752, 2816]
set_option maxHeartbeats 4000000 in
set_option maxRecDepth 100000 in
theorem c_X3_assign_1 {l : Launch} {D : va_G} {cy : Nat → ClassId} {L : List Nat} {C : Nat → Nat} {b0 : Nat} {I : hI} {J : hJ} {R : hR} {a0 : Nat} {a1 : Nat} {a2 : Nat} {x3 : Int32} {x4 : Int32} {x5 : Int32} (oI : OkI L C I) (oR : OkR L C R) (m0 : a0 ∈ L) (k0 : C a0 = 3) (m1 : a1 ∈ L) (k1 : C a1 = 5) (m2 : a2 ∈ L) (k2 : C a2 = 5) (h3 : Rg x3 (1) (1)) : CI l yX3_assign cX3_assign 8 .boolean 8 D cy L C b0 [.ref a0, .ref a1, .ref a2, .int x3, .int x4, .int x5] (I, J, R) (fun r v => Ps L C ms_X3_assign_1 (I, J, R) v ∧ v.2.1 = J ∧ v.2.2 = R ∧ Rg r (0) (1) ∧ F_X3_assign_1 a0 a1 a2 x3 x4 x5 I J R = (r, v)) := by
  refine CI.mkZ (plainFor_of_name (by decide)) (Nat.le_of_ble_eq_true rfl) ?_
  intro p e s m args below meth c ls Q hF ret hH hl
  obtain ⟨hx, hb, -, hml, hown, hts, -⟩ := hF
  have hl : lv_has ls 8 [(0, .ref a0), (1, .ref a1), (2, .ref a2), (3, .int x3), (4, .int x4), (5, .int x5)] := hl
  have hH : Hp D cy L C b0 s s.heap I J R s.heap [] := hH
  have sm : Sm C ms_X3_assign_1 (I, J, R) (I, J, R) := Sm.rf
  obtain ⟨TT0, hT⟩ : ∃ TT0, TT0 = F_X3_assign_1 a0 a1 a2 x3 x4 x5 I J R := ⟨_, rfl⟩
  have hv := hT
  unfold F_X3_assign_1 at hv
  refine lv_iload hx hb dX3_assign_0 (lv_at hl 5 rfl) ?_
  refine lv_aload_n hx hb dX3_assign_2 rfl (lv_at hl 0 rfl) ?_
  refine gf_3_4 hx hb hts hown hH m0 k0 rfl kf_X3_16 dX3_assign_3 ?_
  refine lv_topi (fun y1 ey1 => ?_)
  replace hv := fnS hv ey1
  have L_145 : ∀ (I_145 : hI) (H : Heap) (locs : List Loc) (ls : Array Slot) (x6_145 : Int32), Hp D cy L C b0 s s.heap I_145 J R H locs → TT0 = F_X3_assign_1_145 a0 a1 a2 x3 x4 x5 y1 I_145 J R x6_145 → OkI L C I_145 → Sm C ms_X3_assign_1 (I, J, R) (I_145, J, R) → Rg x6_145 (0) (1) → lv_has ls 8 [(6, .int x6_145)] → W p l e (rmD 8) s m args below meth c H locs 0 0 Q (F0 m 145 ls []) := by
    intro I_145 H locs ls x6_145 hH hv oI sm r6_145 hl
    unfold F_X3_assign_1_145 at hv
    refine lv_iload hx hb dX3_assign_145 (lv_at hl 0 rfl) ?_
    exact ret (x6_145) _ _ _ _ _ _ _ dX3_assign_147 hH (Rg_01 (Rg_w r6_145 (by decide))) ⟨⟨oI, oR, sm⟩, rfl, rfl, r6_145, (hT.symm.trans hv)⟩
  have L_143 : ∀ (I_143 : hI) (H : Heap) (locs : List Loc) (ls : Array Slot) (xs0_143 : Int32), Hp D cy L C b0 s s.heap I_143 J R H locs → TT0 = F_X3_assign_1_143 a0 a1 a2 x3 x4 x5 y1 I_143 J R xs0_143 → OkI L C I_143 → Sm C ms_X3_assign_1 (I, J, R) (I_143, J, R) → Rg xs0_143 (0) (1) → lv_has ls 8 [] → W p l e (rmD 8) s m args below meth c H locs 0 0 Q (F0 m 143 ls [.int xs0_143]) := by
    intro I_143 H locs ls xs0_143 hH hv oI sm rs0_143 hl
    unfold F_X3_assign_1_143 at hv
    refine lv_istore (lv' := [(6, .int xs0_143)]) hx hb dX3_assign_143 hl (by decide) rfl (fun ls hl => ?_)
    exact L_145 I_143 _ _ _ xs0_143 hH hv oI sm rs0_143 (lv_sub hl [0] rfl)
  have L_138 : ∀ (I_138 : hI) (H : Heap) (locs : List Loc) (ls : Array Slot), Hp D cy L C b0 s s.heap I_138 J R H locs → TT0 = F_X3_assign_1_138 a0 a1 a2 x3 x4 x5 y1 I_138 J R → OkI L C I_138 → Sm C ms_X3_assign_1 (I, J, R) (I_138, J, R) → lv_has ls 8 [] → W p l e (rmD 8) s m args below meth c H locs 0 0 Q (F0 m 138 ls []) := by
    intro I_138 H locs ls hH hv oI sm hl
    unfold F_X3_assign_1_138 at hv
    refine lv_iconst (v := 1) hx hb dX3_assign_138 (by decide) ?_
    refine lv_goto (tgt := 143) hx hb dX3_assign_139 (by decide) ?_
    exact L_143 I_138 _ _ _ 1 hH hv oI sm (Rg_w (Rg_c (x := 1) (a := (1)) (b := (1)) (by decide)) (by decide)) (lv_sub hl [] rfl)
  have L_45 : ∀ (n_45 : Nat) (I_45 : hI) (H : Heap) (locs : List Loc) (ls : Array Slot) (x6_45 : Int32) (x7_45 : Int32), (4 - x7_45.toInt).toNat < n_45 → Hp D cy L C b0 s s.heap I_45 J R H locs → TT0 = F_X3_assign_1_45 a0 a1 a2 x3 x4 x5 y1 n_45 I_45 J R x6_45 x7_45 → OkI L C I_45 → Sm C ms_X3_assign_1 (I, J, R) (I_45, J, R) → Rg x3 (1) (1) → Rg x5 (-2147483648) (2147483646) → Rg x6_45 (0) (1) → Rg x7_45 (0) (4) → lv_has ls 8 [(0, .ref a0), (1, .ref a1), (2, .ref a2), (3, .int x3), (4, .int x4), (5, .int x5), (6, .int x6_45), (7, .int x7_45)] → W p l e (rmD 8) s m args below meth c H locs 0 0 Q (F0 m 45 ls []) := by
    intro n_45
    induction n_45 with
    | zero => intro I_45 H locs ls x6_45 x7_45 h; exact absurd h (Nat.not_lt_zero _)
    | succ n_45 ih_45 =>
      intro I_45 H locs ls x6_45 x7_45 hn_45 hH hv oI sm r3_45 r5_45 r6_45 r7_45 hl
      replace hv := hv.trans F_X3_assign_1_45_s
      unfold B_X3_assign_1_45 at hv
      have L_83 : ∀ (I_83 : hI) (H : Heap) (locs : List Loc) (ls : Array Slot) (x6_83 : Int32), Hp D cy L C b0 s s.heap I_83 J R H locs → TT0 = F_X3_assign_1_83 a0 a1 a2 x3 x4 x5 y1 x6_45 x7_45 (F_X3_assign_1_45 a0 a1 a2 x3 x4 x5 y1 n_45) I_83 J R x6_83 → OkI L C I_83 → Sm C ms_X3_assign_1 (I, J, R) (I_83, J, R) → Rg x3 (1) (1) → Rg x5 (-2147483648) (2147483646) → Rg x6_83 (0) (1) → Rg x7_45 (0) (3) → lv_has ls 8 [(0, .ref a0), (1, .ref a1), (2, .ref a2), (3, .int x3), (4, .int x4), (5, .int x5), (6, .int x6_83), (7, .int x7_45)] → W p l e (rmD 8) s m args below meth c H locs 0 0 Q (F0 m 83 ls []) := by
        intro I_83 H locs ls x6_83 hH hv oI sm r3_83 r5_83 r6_83 r7_83 hl
        unfold F_X3_assign_1_83 at hv
        obtain ⟨y2, ey2⟩ : ∃ y : Int32, y = x7_45 + 1 := ⟨_, rfl⟩
        replace hv := fnS hv ey2
        obtain ⟨ty2, ry2⟩ := Rg_addx (a' := (1)) (b' := (4)) (rfl : x7_45.toInt = _) (by decide : Int32.toInt 1 = 1) r7_83 (Rg_c (x := 1) (a := (1)) (b := (1)) (by decide)) (by decide)
        rw [← ey2] at ty2 ry2
        refine lv_iinc (v := y2) (lv' := [(7, .int y2), (0, .ref a0), (1, .ref a1), (2, .ref a2), (3, .int x3), (4, .int x4), (5, .int x5), (6, .int x6_83)]) hx hb dX3_assign_83 hl (k := 7) rfl (by rw [ey2]; rfl) (by decide) rfl (fun ls hl => ?_)
        refine lv_goto (tgt := 45) hx hb dX3_assign_86 (by decide) ?_
        exact ih_45 I_83 _ _ _ x6_83 y2 (lp_up hn_45 ty2 (Rg_ltc r7_83 (by decide))) hH hv oI sm r3_83 r5_83 r6_83 (Rg_w ry2 (by decide)) (lv_sub hl [1, 2, 3, 4, 5, 6, 7, 0] rfl)
      refine lv_iload hx hb dX3_assign_45 (lv_at hl 7 rfl) ?_
      refine lv_aload_n hx hb dX3_assign_47 rfl (lv_at hl 1 rfl) ?_
      refine gf_5_2 hx hb hts hown hH m1 k1 rfl kf_X3_79 dX3_assign_48 ?_
      refine lv_topi (fun y3 ey3 => ?_)
      have ry3 : Rg y3 (0) (4) := by rw [ey3]; exact rf_5_2 oI m1 k1
      replace hv := fnS hv ey3
      refine lv_icmp_ge (tgt := 89) hx hb dX3_assign_51 (by decide) (fun q4 => ?_) (fun q4 => ?_)
      rotate_left
      · replace hv := fnN hv q4
        have r24 : Rg x7_45 (0) (3) := Rg_ult r7_45 (Rg_nle q4) ry3 (by decide)
        have r25 : Rg y3 (1) (4) := Rg_llt ry3 (Rg_nle q4) r7_45 (by decide)
        refine lv_iload hx hb dX3_assign_54 (lv_at hl 4 rfl) ?_
        refine lv_iload hx hb dX3_assign_56 (lv_at hl 7 rfl) ?_
        refine lv_ishr hx hb dX3_assign_58 ?_
        refine lv_topi (fun y26 ey26 => ?_)
        replace hv := fnS hv ey26
        refine lv_iconst (v := 1) hx hb dX3_assign_59 (by decide) ?_
        refine lv_iand hx hb dX3_assign_60 ?_
        refine lv_topi (fun y27 ey27 => ?_)
        replace hv := fnS hv ey27
        have ry27 : Rg y27 0 1 := by rw [ey27]; exact Rg_and1 _
        refine lv_if_ne (tgt := 83) hx hb dX3_assign_61 (by decide) (fun q28 => ?_) (fun q28 => ?_)
        · replace hv := fnN hv q28
          have r29 : Rg y27 (1) (1) := Rg_nelo ry27 (Rg_ne q28) (Rg_c (x := 0) (a := (0)) (b := (0)) (by decide)) (by decide)
          exact L_83 I_45 _ _ _ x6_45 hH hv oI sm r3_45 r5_45 r6_45 r24 (lv_sub hl [0, 1, 2, 3, 4, 5, 6, 7] rfl)
        replace hv := fnP hv q28
        have r30 : Rg y27 (0) (0) := Rg_both ry27 (Rg_eqv q28 (Rg_c (x := 0) (a := (0)) (b := (0)) (by decide))) (by decide)
        refine lv_aload_n hx hb dX3_assign_64 rfl (lv_at hl 0 rfl) ?_
        refine lv_aload_n hx hb dX3_assign_65 rfl (lv_at hl 1 rfl) ?_
        refine lv_aload_n hx hb dX3_assign_66 rfl (lv_at hl 2 rfl) ?_
        refine lv_iload_n hx hb dX3_assign_67 rfl (lv_at hl 3 rfl) ?_
        refine lv_iload hx hb dX3_assign_68 (lv_at hl 7 rfl) ?_
        refine lv_iload hx hb dX3_assign_70 (lv_at hl 4 rfl) ?_
        refine lv_iload hx hb dX3_assign_72 (lv_at hl 5 rfl) ?_
        refine ca_X3_92 hx hb hml hown hts hH (c_X3_take_1 oI oR m0 k0 m1 k1 m2 k2 r3_45 r24) hl.1 m0 k0 rfl (by decide) (Nat.le_of_ble_eq_true rfl) ⟨Nat.zero_le _, Nat.zero_le _⟩ dX3_assign_74 (fun y31 I31 J31 R31 H locs hp hH => ?_)
        obtain ⟨⟨oI, -, sc31⟩, eJ31, eR31, ry31, hf31⟩ := hp
        obtain rfl : J = J31 := eJ31.symm
        obtain rfl : R = R31 := eR31.symm
        replace hv := fnC hv hf31
        have sm : Sm C ms_X3_assign_1 (I, J, R) (I31, J, R) := sm.tr sc31 rfl
        refine lv_if_eq (tgt := 83) hx hb dX3_assign_77 (by decide) (fun q32 => ?_) (fun q32 => ?_)
        · replace hv := fnP hv q32
          have r33 : Rg y31 (0) (0) := Rg_both ry31 (Rg_eqv q32 (Rg_c (x := 0) (a := (0)) (b := (0)) (by decide))) (by decide)
          exact L_83 I31 _ _ _ x6_45 hH hv oI sm r3_45 r5_45 r6_45 r24 (lv_sub hl [0, 1, 2, 3, 4, 5, 6, 7] rfl)
        replace hv := fnN hv q32
        have r34 : Rg y31 (1) (1) := Rg_nelo ry31 (Rg_ne q32) (Rg_c (x := 0) (a := (0)) (b := (0)) (by decide)) (by decide)
        refine lv_iconst (v := 1) hx hb dX3_assign_80 (by decide) ?_
        refine lv_istore (lv' := [(6, .int 1), (0, .ref a0), (1, .ref a1), (2, .ref a2), (3, .int x3), (4, .int x4), (5, .int x5), (7, .int x7_45)]) hx hb dX3_assign_81 hl (by decide) rfl (fun ls hl => ?_)
        exact L_83 I31 _ _ _ 1 hH hv oI sm r3_45 r5_45 (Rg_w (Rg_c (x := 1) (a := (1)) (b := (1)) (by decide)) (by decide)) r24 (lv_sub hl [1, 2, 3, 4, 5, 6, 0, 7] rfl)
      replace hv := fnP hv q4
      refine lv_aload_n hx hb dX3_assign_89 rfl (lv_at hl 0 rfl) ?_
      obtain ⟨b5, mb5, vb5, kb5⟩ := rf_3_2 oR m0 k0
      replace hv := fnR hv vb5
      refine gf_3_2 vb5 hx hb hts hown hH m0 k0 rfl kf_X3_34 dX3_assign_90 ?_
      obtain ⟨b6, mb6, vb6, kb6⟩ := rf_2_0 oR mb5 kb5
      replace hv := fnR hv vb6
      refine gf_2_0 vb6 hx hb hts hown hH mb5 kb5 rfl kf_X3_96 dX3_assign_93 ?_
      refine lv_aload_n hx hb dX3_assign_96 rfl (lv_at hl 2 rfl) ?_
      obtain ⟨b7, mb7, vb7, kb7⟩ := rf_5_3 oR m2 k2
      replace hv := fnR hv vb7
      refine gf_5_3 vb7 hx hb hts hown hH m2 k2 rfl kf_X3_102 dX3_assign_97 ?_
      refine lv_iload_n hx hb dX3_assign_100 rfl (lv_at hl 3 rfl) ?_
      refine ld_54 hx hb hH mb7 kb7 (Rg_in r3_45 (by decide)) dX3_assign_101 ?_
      refine lv_topi (fun y8 ey8 => ?_)
      have ry8 : Rg y8 (0) (6) := by rw [ey8]; exact rd_54 oI mb7 kb7 (Rg_in r3_45 (by decide))
      replace hv := fnS hv ey8
      refine ld_41 hx hb hH mb6 kb6 (Rg_in ry8 (by decide)) dX3_assign_102 ?_
      refine lv_topi (fun y9 ey9 => ?_)
      have ry9 : Rg y9 (0) (1) := by rw [ey9]; exact rd_41 oI mb6 kb6 (Rg_in ry8 (by decide))
      replace hv := fnS hv ey9
      refine lv_if_eq (tgt := 145) hx hb dX3_assign_103 (by decide) (fun q10 => ?_) (fun q10 => ?_)
      · replace hv := fnP hv q10
        have r11 : Rg y9 (0) (0) := Rg_both ry9 (Rg_eqv q10 (Rg_c (x := 0) (a := (0)) (b := (0)) (by decide))) (by decide)
        exact L_145 I_45 _ _ _ x6_45 hH hv oI sm r6_45 (lv_sub hl [6] rfl)
      replace hv := fnN hv q10
      have r12 : Rg y9 (1) (1) := Rg_nelo ry9 (Rg_ne q10) (Rg_c (x := 0) (a := (0)) (b := (0)) (by decide)) (by decide)
      refine lv_aload_n hx hb dX3_assign_106 rfl (lv_at hl 0 rfl) ?_
      obtain ⟨b13, mb13, vb13, kb13⟩ := rf_3_3 oR m0 k0
      replace hv := fnR hv vb13
      refine gf_3_3 vb13 hx hb hts hown hH m0 k0 rfl kf_X3_9 dX3_assign_107 ?_
      refine lv_iload_n hx hb dX3_assign_110 rfl (lv_at hl 3 rfl) ?_
      refine lv_bipush (v := 9) hx hb dX3_assign_111 (by decide) ?_
      refine st_43 hx hb hH mb13 kb13 (Rg_in r3_45 (by decide)) dX3_assign_113 (fun I14 H locs eI14 hH => ?_)
      replace hv := fnS hv eI14
      have oI : OkI L C I14 := by rw [eI14]; exact wr_43 oI kb13 (Rg_w (Rg_c (x := 9) (a := (9)) (b := (9)) (by decide)) (by decide)) (by first | exact Or.inl (by decide) | exact Or.inr (by decide))
      have sm : Sm C ms_X3_assign_1 (I, J, R) (I14, J, R) := by rw [eI14]; exact sm.stI kb13 (mC_arr (by decide) rfl)
      refine lv_aload_n hx hb dX3_assign_114 rfl (lv_at hl 0 rfl) ?_
      refine lv_aload_n hx hb dX3_assign_115 rfl (lv_at hl 1 rfl) ?_
      refine lv_aload_n hx hb dX3_assign_116 rfl (lv_at hl 2 rfl) ?_
      refine lv_iload_n hx hb dX3_assign_117 rfl (lv_at hl 3 rfl) ?_
      refine lv_iconst (v := 1) hx hb dX3_assign_118 (by decide) ?_
      refine lv_iadd hx hb dX3_assign_119 ?_
      refine lv_topi (fun y15 ey15 => ?_)
      replace hv := fnS hv ey15
      obtain ⟨ty15, ry15⟩ := Rg_addx (a' := (2)) (b' := (2)) (rfl : x3.toInt = _) (by decide : Int32.toInt 1 = 1) r3_45 (Rg_c (x := 1) (a := (1)) (b := (1)) (by decide)) (by decide)
      rw [← ey15] at ty15 ry15
      refine lv_iload hx hb dX3_assign_120 (lv_at hl 4 rfl) ?_
      refine lv_iload hx hb dX3_assign_122 (lv_at hl 5 rfl) ?_
      refine lv_bipush (v := 7) hx hb dX3_assign_124 (by decide) ?_
      refine lv_iadd hx hb dX3_assign_126 ?_
      refine lv_topi (fun y16 ey16 => ?_)
      replace hv := fnS hv ey16
      refine ca_X3_51 hx hb hml hown hts hH (c_X3_assign_2 oI oR m0 k0 m1 k1 m2 k2 ry15) hl.1 m0 k0 rfl (by decide) (Nat.le_of_ble_eq_true rfl) ⟨Nat.zero_le _, Nat.zero_le _⟩ dX3_assign_127 (fun y17 I17 J17 R17 H locs hp hH => ?_)
      obtain ⟨⟨oI, -, sc17⟩, eJ17, eR17, ry17, hf17⟩ := hp
      obtain rfl : J = J17 := eJ17.symm
      obtain rfl : R = R17 := eR17.symm
      replace hv := fnC hv hf17
      have sm : Sm C ms_X3_assign_1 (I, J, R) (I17, J, R) := sm.tr sc17 rfl
      refine lv_if_ne (tgt := 138) hx hb dX3_assign_130 (by decide) (fun q18 => ?_) (fun q18 => ?_)
      · replace hv := fnN hv q18
        have r19 : Rg y17 (1) (1) := Rg_nelo ry17 (Rg_ne q18) (Rg_c (x := 0) (a := (0)) (b := (0)) (by decide)) (by decide)
        exact L_138 I17 _ _ _ hH hv oI sm (lv_sub hl [] rfl)
      replace hv := fnP hv q18
      have r20 : Rg y17 (0) (0) := Rg_both ry17 (Rg_eqv q18 (Rg_c (x := 0) (a := (0)) (b := (0)) (by decide))) (by decide)
      refine lv_iload hx hb dX3_assign_133 (lv_at hl 6 rfl) ?_
      refine lv_if_eq (tgt := 142) hx hb dX3_assign_135 (by decide) (fun q21 => ?_) (fun q21 => ?_)
      rotate_left
      · replace hv := fnN hv q21
        have r23 : Rg x6_45 (1) (1) := Rg_nelo r6_45 (Rg_ne q21) (Rg_c (x := 0) (a := (0)) (b := (0)) (by decide)) (by decide)
        exact L_138 I17 _ _ _ hH hv oI sm (lv_sub hl [] rfl)
      replace hv := fnP hv q21
      have r22 : Rg x6_45 (0) (0) := Rg_both r6_45 (Rg_eqv q21 (Rg_c (x := 0) (a := (0)) (b := (0)) (by decide))) (by decide)
      refine lv_iconst (v := 0) hx hb dX3_assign_142 (by decide) ?_
      exact L_143 I17 _ _ _ 0 hH hv oI sm (Rg_w (Rg_c (x := 0) (a := (0)) (b := (0)) (by decide)) (by decide)) (lv_sub hl [] rfl)
  refine lv_icmp_lt (tgt := 11) hx hb dX3_assign_6 (by decide) (fun q35 => ?_) (fun q35 => ?_)
  rotate_left
  · replace hv := fnN hv q35
    refine lv_iconst (v := 0) hx hb dX3_assign_9 (by decide) ?_
    exact ret (0) _ _ _ _ _ _ _ dX3_assign_10 hH (Rg_01 (Rg_w (Rg_c (x := 0) (a := (0)) (b := (0)) (by decide)) (by decide))) ⟨⟨oI, oR, sm⟩, rfl, rfl, (Rg_w (Rg_c (x := 0) (a := (0)) (b := (0)) (by decide)) (by decide)), (hT.symm.trans hv)⟩
  replace hv := fnP hv q35
  have r36 : Rg x5 (-2147483648) (2147483646) := Rg_ult (Rg_any x5) (Rg_lt q35) (Rg_any y1) (by decide)
  have r37 : Rg y1 (-2147483647) (2147483647) := Rg_llt (Rg_any y1) (Rg_lt q35) (Rg_any x5) (by decide)
  refine lv_iload_n hx hb dX3_assign_11 rfl (lv_at hl 3 rfl) ?_
  refine lv_aload_n hx hb dX3_assign_12 rfl (lv_at hl 2 rfl) ?_
  refine gf_5_2 hx hb hts hown hH m2 k2 rfl kf_X3_79 dX3_assign_13 ?_
  refine lv_topi (fun y38 ey38 => ?_)
  have ry38 : Rg y38 (0) (4) := by rw [ey38]; exact rf_5_2 oI m2 k2
  replace hv := fnS hv ey38
  refine lv_icmp_lt (tgt := 39) hx hb dX3_assign_16 (by decide) (fun q39 => ?_) (fun q39 => ?_)
  · replace hv := fnP hv q39
    have r40 : Rg y38 (2) (4) := Rg_llt ry38 (Rg_lt q39) h3 (by decide)
    refine lv_iconst (v := 0) hx hb dX3_assign_39 (by decide) ?_
    refine lv_istore (lv' := [(6, .int 0), (0, .ref a0), (1, .ref a1), (2, .ref a2), (3, .int x3), (4, .int x4), (5, .int x5)]) hx hb dX3_assign_40 hl (by decide) rfl (fun ls hl => ?_)
    refine lv_iconst (v := 0) hx hb dX3_assign_42 (by decide) ?_
    refine lv_istore (lv' := [(7, .int 0), (6, .int 0), (0, .ref a0), (1, .ref a1), (2, .ref a2), (3, .int x3), (4, .int x4), (5, .int x5)]) hx hb dX3_assign_43 hl (by decide) rfl (fun ls hl => ?_)
    exact L_45 ((4 - (0 : Int32).toInt).toNat + 1) I _ _ _ 0 0 (Nat.lt_succ_self _) hH hv oI sm h3 r36 (Rg_w (Rg_c (x := 0) (a := (0)) (b := (0)) (by decide)) (by decide)) (Rg_w (Rg_c (x := 0) (a := (0)) (b := (0)) (by decide)) (by decide)) (lv_sub hl [2, 3, 4, 5, 6, 7, 1, 0] rfl)
  replace hv := fnN hv q39
  have r41 : Rg y38 (0) (1) := Rg_ule ry38 (Rg_nlt q39) h3 (by decide)
  refine lv_aload_n hx hb dX3_assign_19 rfl (lv_at hl 0 rfl) ?_
  refine lv_iload hx hb dX3_assign_20 (lv_at hl 5 rfl) ?_
  refine lv_iconst (v := 4) hx hb dX3_assign_22 (by decide) ?_
  refine lv_aload_n hx hb dX3_assign_23 rfl (lv_at hl 1 rfl) ?_
  refine gf_5_2 hx hb hts hown hH m1 k1 rfl kf_X3_79 dX3_assign_24 ?_
  refine lv_topi (fun y42 ey42 => ?_)
  have ry42 : Rg y42 (0) (4) := by rw [ey42]; exact rf_5_2 oI m1 k1
  replace hv := fnS hv ey42
  refine lv_iload hx hb dX3_assign_27 (lv_at hl 4 rfl) ?_
  refine ca_X3_82 hx hb hml hown hts hH (c_J6_bitCount_0f7a4 ) hl.1 (by decide) (Nat.le_of_ble_eq_true rfl) ⟨Nat.zero_le _, Nat.zero_le _⟩ dX3_assign_29 (fun y43 I43 J43 R43 H locs hp hH => ?_)
  obtain ⟨eI43, eJ43, eR43, hf43⟩ := hp
  obtain rfl : I = I43 := eI43.symm
  obtain rfl : J = J43 := eJ43.symm
  obtain rfl : R = R43 := eR43.symm
  replace hv := fnS hv hf43.symm
  refine lv_isub hx hb dX3_assign_32 ?_
  refine lv_topi (fun y44 ey44 => ?_)
  replace hv := fnS hv ey44
  refine lv_imul hx hb dX3_assign_33 ?_
  refine lv_topi (fun y45 ey45 => ?_)
  replace hv := fnS hv ey45
  refine lv_iadd hx hb dX3_assign_34 ?_
  refine lv_topi (fun y46 ey46 => ?_)
  replace hv := fnS hv ey46
  refine ca_X3_88 hx hb hml hown hts hH (c_X3_settle oI oR m0 k0) hl.1 m0 k0 rfl (by decide) (Nat.le_of_ble_eq_true rfl) ⟨Nat.zero_le _, Nat.zero_le _⟩ dX3_assign_35 (fun y47 I47 J47 R47 H locs hp hH => ?_)
  obtain ⟨⟨oI, -, sc47⟩, eJ47, eR47, ry47, hf47⟩ := hp
  obtain rfl : J = J47 := eJ47.symm
  obtain rfl : R = R47 := eR47.symm
  replace hv := fnC hv hf47
  have sm : Sm C ms_X3_assign_1 (I, J, R) (I47, J, R) := sm.tr sc47 rfl
  exact ret (y47) _ _ _ _ _ _ _ dX3_assign_38 hH (Rg_01 (Rg_w ry47 (by decide))) ⟨⟨oI, oR, sm⟩, rfl, rfl, ry47, (hT.symm.trans hv)⟩
noncomputable def F_X3_take_0_49 (a0 : Nat) (a1 : Nat) (a2 : Nat) (x3 : Int32) (x4 : Int32) (x5 : Int32) (x6 : Int32) (y6 : Int32) (y3 : Int32) (y5 : Int32) (b1 : Nat) (b2 : Nat) (b4 : Nat) (I_49 : hI) (J : hJ) (R : hR) (xs0_49 : Int32) : Int32 × hU :=
  nm (x3 + (1 : Int32)) fun y7 => nm ((1 : Int32) <<< (x4 &&& 31)) fun y8 => nm (x5 ||| y8) fun y9 => nm (x6 + y6) fun y10 => nm (y10 + xs0_49) fun y11 => nmU (F_X3_assign_1 a0 a1 a2 y7 y9 y11 I_49 J R) fun y12 I12 _ _ => (y12, (I12, J, R))
noncomputable def F_X3_take_0 (a0 : Nat) (a1 : Nat) (a2 : Nat) (x3 : Int32) (x4 : Int32) (x5 : Int32) (x6 : Int32) (I : hI) (J : hJ) (R : hR) : Int32 × hU :=
  nm ((R a0 0).getD 0) fun b1 => nm ((R a1 3).getD 0) fun b2 => nm (I b2 (Int32.toNatClampNeg x4)) fun y3 => nm ((R a2 3).getD 0) fun b4 => nm (I b4 (Int32.toNatClampNeg x3)) fun y5 => nm (F_X6_costBetween b1 y3 y5 I J R) fun y6 => (if y6 = (-1 : Int32) then ((0 : Int32), (I, J, R)) else nm ((R a0 3).getD 0) fun b14 => nm (u2 I b14 (Int32.toNatClampNeg x3) x4) fun I15 => (if x4 = x3 then F_X3_take_0_49 a0 a1 a2 x3 x4 x5 x6 y6 y3 y5 b1 b2 b4 I15 J R (0 : Int32) else F_X3_take_0_49 a0 a1 a2 x3 x4 x5 x6 y6 y3 y5 b1 b2 b4 I15 J R (1 : Int32)))
def ms_X3_take_0 : List Nat := [196, 2752, 2816]
set_option maxHeartbeats 4000000 in
set_option maxRecDepth 100000 in
theorem c_X3_take_0 {l : Launch} {D : va_G} {cy : Nat → ClassId} {L : List Nat} {C : Nat → Nat} {b0 : Nat} {I : hI} {J : hJ} {R : hR} {a0 : Nat} {a1 : Nat} {a2 : Nat} {x3 : Int32} {x4 : Int32} {x5 : Int32} {x6 : Int32} (oI : OkI L C I) (oR : OkR L C R) (m0 : a0 ∈ L) (k0 : C a0 = 3) (m1 : a1 ∈ L) (k1 : C a1 = 5) (m2 : a2 ∈ L) (k2 : C a2 = 5) (h3 : Rg x3 (0) (0)) (h4 : Rg x4 (0) (3)) : CI l yX3_take cX3_take 9 .boolean 9 D cy L C b0 [.ref a0, .ref a1, .ref a2, .int x3, .int x4, .int x5, .int x6] (I, J, R) (fun r v => Ps L C ms_X3_take_0 (I, J, R) v ∧ v.2.1 = J ∧ v.2.2 = R ∧ Rg r (0) (1) ∧ F_X3_take_0 a0 a1 a2 x3 x4 x5 x6 I J R = (r, v)) := by
  refine CI.mkZ (plainFor_of_name (by decide)) (Nat.le_of_ble_eq_true rfl) ?_
  intro p e s m args below meth c ls Q hF ret hH hl
  obtain ⟨hx, hb, -, hml, hown, hts, -⟩ := hF
  have hl : lv_has ls 9 [(0, .ref a0), (1, .ref a1), (2, .ref a2), (3, .int x3), (4, .int x4), (5, .int x5), (6, .int x6)] := hl
  have hH : Hp D cy L C b0 s s.heap I J R s.heap [] := hH
  have sm : Sm C ms_X3_take_0 (I, J, R) (I, J, R) := Sm.rf
  obtain ⟨TT0, hT⟩ : ∃ TT0, TT0 = F_X3_take_0 a0 a1 a2 x3 x4 x5 x6 I J R := ⟨_, rfl⟩
  have hv := hT
  unfold F_X3_take_0 at hv
  refine lv_aload_n hx hb dX3_take_0 rfl (lv_at hl 0 rfl) ?_
  obtain ⟨b1, mb1, vb1, kb1⟩ := rf_3_0 oR m0 k0
  replace hv := fnR hv vb1
  refine gf_3_0 vb1 hx hb hts hown hH m0 k0 rfl kf_X3_26 dX3_take_1 ?_
  refine lv_aload_n hx hb dX3_take_4 rfl (lv_at hl 1 rfl) ?_
  obtain ⟨b2, mb2, vb2, kb2⟩ := rf_5_3 oR m1 k1
  replace hv := fnR hv vb2
  refine gf_5_3 vb2 hx hb hts hown hH m1 k1 rfl kf_X3_102 dX3_take_5 ?_
  refine lv_iload hx hb dX3_take_8 (lv_at hl 4 rfl) ?_
  refine ld_54 hx hb hH mb2 kb2 (Rg_in h4 (by decide)) dX3_take_10 ?_
  refine lv_topi (fun y3 ey3 => ?_)
  have ry3 : Rg y3 (0) (6) := by rw [ey3]; exact rd_54 oI mb2 kb2 (Rg_in h4 (by decide))
  replace hv := fnS hv ey3
  refine lv_aload_n hx hb dX3_take_11 rfl (lv_at hl 2 rfl) ?_
  obtain ⟨b4, mb4, vb4, kb4⟩ := rf_5_3 oR m2 k2
  replace hv := fnR hv vb4
  refine gf_5_3 vb4 hx hb hts hown hH m2 k2 rfl kf_X3_102 dX3_take_12 ?_
  refine lv_iload_n hx hb dX3_take_15 rfl (lv_at hl 3 rfl) ?_
  refine ld_54 hx hb hH mb4 kb4 (Rg_in h3 (by decide)) dX3_take_16 ?_
  refine lv_topi (fun y5 ey5 => ?_)
  have ry5 : Rg y5 (0) (6) := by rw [ey5]; exact rd_54 oI mb4 kb4 (Rg_in h3 (by decide))
  replace hv := fnS hv ey5
  refine ca_X3_73 hx hb hml hown hts hH (c_X6_costBetween oI oR mb1 kb1 ry3 ry5) hl.1 mb1 kb1 rfl (by decide) (Nat.le_of_ble_eq_true rfl) ⟨Nat.zero_le _, Nat.zero_le _⟩ dX3_take_17 (fun y6 I6 J6 R6 H locs hp hH => ?_)
  obtain ⟨eI6, eJ6, eR6, hf6⟩ := hp
  obtain rfl : I = I6 := eI6.symm
  obtain rfl : J = J6 := eJ6.symm
  obtain rfl : R = R6 := eR6.symm
  replace hv := fnS hv hf6.symm
  refine lv_istore (lv' := [(7, .int y6), (0, .ref a0), (1, .ref a1), (2, .ref a2), (3, .int x3), (4, .int x4), (5, .int x5), (6, .int x6)]) hx hb dX3_take_20 hl (by decide) rfl (fun ls hl => ?_)
  refine lv_iload hx hb dX3_take_22 (lv_at hl 0 rfl) ?_
  refine lv_iconst (v := (-1)) hx hb dX3_take_24 (by decide) ?_
  have L_49 : ∀ (I_49 : hI) (H : Heap) (locs : List Loc) (ls : Array Slot) (xs0_49 : Int32), Hp D cy L C b0 s s.heap I_49 J R H locs → TT0 = F_X3_take_0_49 a0 a1 a2 x3 x4 x5 x6 y6 y3 y5 b1 b2 b4 I_49 J R xs0_49 → OkI L C I_49 → Sm C ms_X3_take_0 (I, J, R) (I_49, J, R) → Rg xs0_49 (0) (1) → Rg x3 (0) (0) → Rg x4 (0) (3) → lv_has ls 9 [(0, .ref a0), (1, .ref a1), (2, .ref a2), (3, .int x3), (4, .int x4), (5, .int x5), (6, .int x6), (7, .int y6)] → W p l e (rmD 9) s m args below meth c H locs 0 0 Q (F0 m 49 ls [.int xs0_49]) := by
    intro I_49 H locs ls xs0_49 hH hv oI sm rs0_49 r3_49 r4_49 hl
    unfold F_X3_take_0_49 at hv
    refine lv_istore (lv' := [(8, .int xs0_49), (0, .ref a0), (1, .ref a1), (2, .ref a2), (3, .int x3), (4, .int x4), (5, .int x5), (6, .int x6), (7, .int y6)]) hx hb dX3_take_49 hl (by decide) rfl (fun ls hl => ?_)
    refine lv_aload_n hx hb dX3_take_51 rfl (lv_at hl 1 rfl) ?_
    refine lv_aload_n hx hb dX3_take_52 rfl (lv_at hl 2 rfl) ?_
    refine lv_aload_n hx hb dX3_take_53 rfl (lv_at hl 3 rfl) ?_
    refine lv_iload_n hx hb dX3_take_54 rfl (lv_at hl 4 rfl) ?_
    refine lv_iconst (v := 1) hx hb dX3_take_55 (by decide) ?_
    refine lv_iadd hx hb dX3_take_56 ?_
    refine lv_topi (fun y7 ey7 => ?_)
    replace hv := fnS hv ey7
    obtain ⟨ty7, ry7⟩ := Rg_addx (a' := (1)) (b' := (1)) (rfl : x3.toInt = _) (by decide : Int32.toInt 1 = 1) r3_49 (Rg_c (x := 1) (a := (1)) (b := (1)) (by decide)) (by decide)
    rw [← ey7] at ty7 ry7
    refine lv_iload hx hb dX3_take_57 (lv_at hl 6 rfl) ?_
    refine lv_iconst (v := 1) hx hb dX3_take_59 (by decide) ?_
    refine lv_iload hx hb dX3_take_60 (lv_at hl 5 rfl) ?_
    refine lv_ishl hx hb dX3_take_62 ?_
    refine lv_topi (fun y8 ey8 => ?_)
    replace hv := fnS hv ey8
    refine lv_ior hx hb dX3_take_63 ?_
    refine lv_topi (fun y9 ey9 => ?_)
    replace hv := fnS hv ey9
    refine lv_iload hx hb dX3_take_64 (lv_at hl 7 rfl) ?_
    refine lv_iload hx hb dX3_take_66 (lv_at hl 8 rfl) ?_
    refine lv_iadd hx hb dX3_take_68 ?_
    refine lv_topi (fun y10 ey10 => ?_)
    replace hv := fnS hv ey10
    refine lv_iload hx hb dX3_take_69 (lv_at hl 0 rfl) ?_
    refine lv_iadd hx hb dX3_take_71 ?_
    refine lv_topi (fun y11 ey11 => ?_)
    replace hv := fnS hv ey11
    refine ca_X3_51 hx hb hml hown hts hH (c_X3_assign_1 oI oR m0 k0 m1 k1 m2 k2 ry7) hl.1 m0 k0 rfl (by decide) (Nat.le_of_ble_eq_true rfl) ⟨Nat.zero_le _, Nat.zero_le _⟩ dX3_take_72 (fun y12 I12 J12 R12 H locs hp hH => ?_)
    obtain ⟨⟨oI, -, sc12⟩, eJ12, eR12, ry12, hf12⟩ := hp
    obtain rfl : J = J12 := eJ12.symm
    obtain rfl : R = R12 := eR12.symm
    replace hv := fnC hv hf12
    have sm : Sm C ms_X3_take_0 (I, J, R) (I12, J, R) := sm.tr sc12 rfl
    exact ret (y12) _ _ _ _ _ _ _ dX3_take_75 hH (Rg_01 (Rg_w ry12 (by decide))) ⟨⟨oI, oR, sm⟩, rfl, rfl, ry12, (hT.symm.trans hv)⟩
  refine lv_icmp_ne (tgt := 30) hx hb dX3_take_25 (by decide) (fun q13 => ?_) (fun q13 => ?_)
  rotate_left
  · replace hv := fnP hv q13
    have r18 : Rg y6 (-1) (-1) := Rg_both (Rg_any y6) (Rg_eqv q13 (Rg_c (x := (-1)) (a := (-1)) (b := (-1)) (by decide))) (by decide)
    refine lv_iconst (v := 0) hx hb dX3_take_28 (by decide) ?_
    exact ret (0) _ _ _ _ _ _ _ dX3_take_29 hH (Rg_01 (Rg_w (Rg_c (x := 0) (a := (0)) (b := (0)) (by decide)) (by decide))) ⟨⟨oI, oR, sm⟩, rfl, rfl, (Rg_w (Rg_c (x := 0) (a := (0)) (b := (0)) (by decide)) (by decide)), (hT.symm.trans hv)⟩
  replace hv := fnN hv q13
  refine lv_aload_n hx hb dX3_take_30 rfl (lv_at hl 1 rfl) ?_
  obtain ⟨b14, mb14, vb14, kb14⟩ := rf_3_3 oR m0 k0
  replace hv := fnR hv vb14
  refine gf_3_3 vb14 hx hb hts hown hH m0 k0 rfl kf_X3_9 dX3_take_31 ?_
  refine lv_iload_n hx hb dX3_take_34 rfl (lv_at hl 4 rfl) ?_
  refine lv_iload hx hb dX3_take_35 (lv_at hl 5 rfl) ?_
  refine st_43 hx hb hH mb14 kb14 (Rg_in h3 (by decide)) dX3_take_37 (fun I15 H locs eI15 hH => ?_)
  replace hv := fnS hv eI15
  have oI : OkI L C I15 := by rw [eI15]; exact wr_43 oI kb14 (Rg_w h4 (by decide)) (Or.inl (Rg_w (a' := (0)) (b' := (3)) h4 (by decide)).2)
  have sm : Sm C ms_X3_take_0 (I, J, R) (I15, J, R) := by rw [eI15]; exact sm.stI kb14 (mC_arr (by decide) rfl)
  refine lv_iload hx hb dX3_take_38 (lv_at hl 5 rfl) ?_
  refine lv_iload_n hx hb dX3_take_40 rfl (lv_at hl 4 rfl) ?_
  refine lv_icmp_ne (tgt := 48) hx hb dX3_take_41 (by decide) (fun q16 => ?_) (fun q16 => ?_)
  · replace hv := fnN hv q16
    refine lv_iconst (v := 1) hx hb dX3_take_48 (by decide) ?_
    exact L_49 I15 _ _ _ 1 hH hv oI sm (Rg_w (Rg_c (x := 1) (a := (1)) (b := (1)) (by decide)) (by decide)) h3 h4 (lv_sub hl [1, 2, 3, 4, 5, 6, 7, 0] rfl)
  replace hv := fnP hv q16
  have r17 : Rg x4 (0) (0) := Rg_both h4 (Rg_eqv q16 h3) (by decide)
  refine lv_iconst (v := 0) hx hb dX3_take_44 (by decide) ?_
  refine lv_goto (tgt := 49) hx hb dX3_take_45 (by decide) ?_
  exact L_49 I15 _ _ _ 0 hH hv oI sm (Rg_w (Rg_c (x := 0) (a := (0)) (b := (0)) (by decide)) (by decide)) h3 (Rg_w r17 (by decide)) (lv_sub hl [1, 2, 3, 4, 5, 6, 7, 0] rfl)
noncomputable def F_X3_assign_0_145 (a0 : Nat) (a1 : Nat) (a2 : Nat) (x3 : Int32) (x4 : Int32) (x5 : Int32) (y1 : Int32) (I_145 : hI) (J : hJ) (R : hR) (x6_145 : Int32) : Int32 × hU :=
  (x6_145, (I_145, J, R))
noncomputable def F_X3_assign_0_143 (a0 : Nat) (a1 : Nat) (a2 : Nat) (x3 : Int32) (x4 : Int32) (x5 : Int32) (y1 : Int32) (I_143 : hI) (J : hJ) (R : hR) (xs0_143 : Int32) : Int32 × hU :=
  F_X3_assign_0_145 a0 a1 a2 x3 x4 x5 y1 I_143 J R xs0_143
noncomputable def F_X3_assign_0_138 (a0 : Nat) (a1 : Nat) (a2 : Nat) (x3 : Int32) (x4 : Int32) (x5 : Int32) (y1 : Int32) (I_138 : hI) (J : hJ) (R : hR) : Int32 × hU :=
  F_X3_assign_0_143 a0 a1 a2 x3 x4 x5 y1 I_138 J R (1 : Int32)
noncomputable def F_X3_assign_0_83 (a0 : Nat) (a1 : Nat) (a2 : Nat) (x3 : Int32) (x4 : Int32) (x5 : Int32) (y1 : Int32) (x6_45 : Int32) (x7_45 : Int32) (k_45 : hI → hJ → hR → Int32 → Int32 → (Int32 × hU)) (I_83 : hI) (J : hJ) (R : hR) (x6_83 : Int32) : Int32 × hU :=
  nm (x7_45 + (1 : Int32)) fun y2 => k_45 I_83 J R x6_83 y2
noncomputable def B_X3_assign_0_45 (a0 : Nat) (a1 : Nat) (a2 : Nat) (x3 : Int32) (x4 : Int32) (x5 : Int32) (y1 : Int32) (k_45 : hI → hJ → hR → Int32 → Int32 → (Int32 × hU)) (I_45 : hI) (J : hJ) (R : hR) (x6_45 : Int32) (x7_45 : Int32) : Int32 × hU :=
  nm (I_45 a1 2) fun y3 => (if y3 ≤ x7_45 then nm ((R a0 2).getD 0) fun b5 => nm ((R b5 0).getD 0) fun b6 => nm ((R a2 3).getD 0) fun b7 => nm (I_45 b7 (Int32.toNatClampNeg x3)) fun y8 => nm (I_45 b6 (Int32.toNatClampNeg y8)) fun y9 => (if y9 = (0 : Int32) then F_X3_assign_0_145 a0 a1 a2 x3 x4 x5 y1 I_45 J R x6_45 else nm ((R a0 3).getD 0) fun b13 => nm (u2 I_45 b13 (Int32.toNatClampNeg x3) (9 : Int32)) fun I14 => nm (x3 + (1 : Int32)) fun y15 => nm (x5 + (7 : Int32)) fun y16 => nmU (F_X3_assign_1 a0 a1 a2 y15 x4 y16 I14 J R) fun y17 I17 _ _ => (if y17 = (0 : Int32) then (if x6_45 = (0 : Int32) then F_X3_assign_0_143 a0 a1 a2 x3 x4 x5 y1 I17 J R (0 : Int32) else F_X3_assign_0_138 a0 a1 a2 x3 x4 x5 y1 I17 J R) else F_X3_assign_0_138 a0 a1 a2 x3 x4 x5 y1 I17 J R)) else nm (x4 >>> (x7_45 &&& 31)) fun y26 => nm (y26 &&& (1 : Int32)) fun y27 => (if y27 = (0 : Int32) then nmU (F_X3_take_0 a0 a1 a2 x3 x7_45 x4 x5 I_45 J R) fun y31 I31 _ _ => (if y31 = (0 : Int32) then F_X3_assign_0_83 a0 a1 a2 x3 x4 x5 y1 x6_45 x7_45 k_45 I31 J R x6_45 else F_X3_assign_0_83 a0 a1 a2 x3 x4 x5 y1 x6_45 x7_45 k_45 I31 J R (1 : Int32)) else F_X3_assign_0_83 a0 a1 a2 x3 x4 x5 y1 x6_45 x7_45 k_45 I_45 J R x6_45))
noncomputable def F_X3_assign_0_45 (a0 : Nat) (a1 : Nat) (a2 : Nat) (x3 : Int32) (x4 : Int32) (x5 : Int32) (y1 : Int32) : Nat → hI → hJ → hR → Int32 → Int32 → (Int32 × hU) := fun n => Nat.rec (motive := fun _ => hI → hJ → hR → Int32 → Int32 → (Int32 × hU)) (fun _ _ _ _ _ => default) (fun _ k => B_X3_assign_0_45 a0 a1 a2 x3 x4 x5 y1 k) n
theorem F_X3_assign_0_45_s {a0 : Nat} {a1 : Nat} {a2 : Nat} {x3 : Int32} {x4 : Int32} {x5 : Int32} {y1 : Int32} {n : Nat} {I_45 : hI} {J : hJ} {R : hR} {x6_45 : Int32} {x7_45 : Int32} : F_X3_assign_0_45 a0 a1 a2 x3 x4 x5 y1 (n + 1)  I_45 J R x6_45 x7_45 = B_X3_assign_0_45 a0 a1 a2 x3 x4 x5 y1 (F_X3_assign_0_45 a0 a1 a2 x3 x4 x5 y1 n)  I_45 J R x6_45 x7_45 := rfl
noncomputable def F_X3_assign_0 (a0 : Nat) (a1 : Nat) (a2 : Nat) (x3 : Int32) (x4 : Int32) (x5 : Int32) (I : hI) (J : hJ) (R : hR) : Int32 × hU :=
  nm (I a0 4) fun y1 => (if x5 < y1 then nm (I a2 2) fun y38 => (if x3 < y38 then F_X3_assign_0_45 a0 a1 a2 x3 x4 x5 y1 ((4 - (0 : Int32).toInt).toNat + 1) I J R (0 : Int32) (0 : Int32) else nm (I a1 2) fun y42 => nm (F_J6_bitCount_0f7a4 x4) fun y43 => nm (y42 - y43) fun y44 => nm ((4 : Int32) * y44) fun y45 => nm (x5 + y45) fun y46 => nmU (F_X3_settle a0 y46 I J R) fun y47 I47 _ _ => (y47, (I47, J, R))) else ((0 : Int32), (I, J, R)))
def ms_X3_assign_0 : List Nat := [196, 2752, 2816]
set_option maxHeartbeats 4000000 in
set_option maxRecDepth 100000 in
theorem c_X3_assign_0 {l : Launch} {D : va_G} {cy : Nat → ClassId} {L : List Nat} {C : Nat → Nat} {b0 : Nat} {I : hI} {J : hJ} {R : hR} {a0 : Nat} {a1 : Nat} {a2 : Nat} {x3 : Int32} {x4 : Int32} {x5 : Int32} (oI : OkI L C I) (oR : OkR L C R) (m0 : a0 ∈ L) (k0 : C a0 = 3) (m1 : a1 ∈ L) (k1 : C a1 = 5) (m2 : a2 ∈ L) (k2 : C a2 = 5) (h3 : Rg x3 (0) (0)) : CI l yX3_assign cX3_assign 8 .boolean 10 D cy L C b0 [.ref a0, .ref a1, .ref a2, .int x3, .int x4, .int x5] (I, J, R) (fun r v => Ps L C ms_X3_assign_0 (I, J, R) v ∧ v.2.1 = J ∧ v.2.2 = R ∧ Rg r (0) (1) ∧ F_X3_assign_0 a0 a1 a2 x3 x4 x5 I J R = (r, v)) := by
  refine CI.mkZ (plainFor_of_name (by decide)) (Nat.le_of_ble_eq_true rfl) ?_
  intro p e s m args below meth c ls Q hF ret hH hl
  obtain ⟨hx, hb, -, hml, hown, hts, -⟩ := hF
  have hl : lv_has ls 8 [(0, .ref a0), (1, .ref a1), (2, .ref a2), (3, .int x3), (4, .int x4), (5, .int x5)] := hl
  have hH : Hp D cy L C b0 s s.heap I J R s.heap [] := hH
  have sm : Sm C ms_X3_assign_0 (I, J, R) (I, J, R) := Sm.rf
  obtain ⟨TT0, hT⟩ : ∃ TT0, TT0 = F_X3_assign_0 a0 a1 a2 x3 x4 x5 I J R := ⟨_, rfl⟩
  have hv := hT
  unfold F_X3_assign_0 at hv
  refine lv_iload hx hb dX3_assign_0 (lv_at hl 5 rfl) ?_
  refine lv_aload_n hx hb dX3_assign_2 rfl (lv_at hl 0 rfl) ?_
  refine gf_3_4 hx hb hts hown hH m0 k0 rfl kf_X3_16 dX3_assign_3 ?_
  refine lv_topi (fun y1 ey1 => ?_)
  replace hv := fnS hv ey1
  have L_145 : ∀ (I_145 : hI) (H : Heap) (locs : List Loc) (ls : Array Slot) (x6_145 : Int32), Hp D cy L C b0 s s.heap I_145 J R H locs → TT0 = F_X3_assign_0_145 a0 a1 a2 x3 x4 x5 y1 I_145 J R x6_145 → OkI L C I_145 → Sm C ms_X3_assign_0 (I, J, R) (I_145, J, R) → Rg x6_145 (0) (1) → lv_has ls 8 [(6, .int x6_145)] → W p l e (rmD 10) s m args below meth c H locs 0 0 Q (F0 m 145 ls []) := by
    intro I_145 H locs ls x6_145 hH hv oI sm r6_145 hl
    unfold F_X3_assign_0_145 at hv
    refine lv_iload hx hb dX3_assign_145 (lv_at hl 0 rfl) ?_
    exact ret (x6_145) _ _ _ _ _ _ _ dX3_assign_147 hH (Rg_01 (Rg_w r6_145 (by decide))) ⟨⟨oI, oR, sm⟩, rfl, rfl, r6_145, (hT.symm.trans hv)⟩
  have L_143 : ∀ (I_143 : hI) (H : Heap) (locs : List Loc) (ls : Array Slot) (xs0_143 : Int32), Hp D cy L C b0 s s.heap I_143 J R H locs → TT0 = F_X3_assign_0_143 a0 a1 a2 x3 x4 x5 y1 I_143 J R xs0_143 → OkI L C I_143 → Sm C ms_X3_assign_0 (I, J, R) (I_143, J, R) → Rg xs0_143 (0) (1) → lv_has ls 8 [] → W p l e (rmD 10) s m args below meth c H locs 0 0 Q (F0 m 143 ls [.int xs0_143]) := by
    intro I_143 H locs ls xs0_143 hH hv oI sm rs0_143 hl
    unfold F_X3_assign_0_143 at hv
    refine lv_istore (lv' := [(6, .int xs0_143)]) hx hb dX3_assign_143 hl (by decide) rfl (fun ls hl => ?_)
    exact L_145 I_143 _ _ _ xs0_143 hH hv oI sm rs0_143 (lv_sub hl [0] rfl)
  have L_138 : ∀ (I_138 : hI) (H : Heap) (locs : List Loc) (ls : Array Slot), Hp D cy L C b0 s s.heap I_138 J R H locs → TT0 = F_X3_assign_0_138 a0 a1 a2 x3 x4 x5 y1 I_138 J R → OkI L C I_138 → Sm C ms_X3_assign_0 (I, J, R) (I_138, J, R) → lv_has ls 8 [] → W p l e (rmD 10) s m args below meth c H locs 0 0 Q (F0 m 138 ls []) := by
    intro I_138 H locs ls hH hv oI sm hl
    unfold F_X3_assign_0_138 at hv
    refine lv_iconst (v := 1) hx hb dX3_assign_138 (by decide) ?_
    refine lv_goto (tgt := 143) hx hb dX3_assign_139 (by decide) ?_
    exact L_143 I_138 _ _ _ 1 hH hv oI sm (Rg_w (Rg_c (x := 1) (a := (1)) (b := (1)) (by decide)) (by decide)) (lv_sub hl [] rfl)
  have L_45 : ∀ (n_45 : Nat) (I_45 : hI) (H : Heap) (locs : List Loc) (ls : Array Slot) (x6_45 : Int32) (x7_45 : Int32), (4 - x7_45.toInt).toNat < n_45 → Hp D cy L C b0 s s.heap I_45 J R H locs → TT0 = F_X3_assign_0_45 a0 a1 a2 x3 x4 x5 y1 n_45 I_45 J R x6_45 x7_45 → OkI L C I_45 → Sm C ms_X3_assign_0 (I, J, R) (I_45, J, R) → Rg x3 (0) (0) → Rg x5 (-2147483648) (2147483646) → Rg x6_45 (0) (1) → Rg x7_45 (0) (4) → lv_has ls 8 [(0, .ref a0), (1, .ref a1), (2, .ref a2), (3, .int x3), (4, .int x4), (5, .int x5), (6, .int x6_45), (7, .int x7_45)] → W p l e (rmD 10) s m args below meth c H locs 0 0 Q (F0 m 45 ls []) := by
    intro n_45
    induction n_45 with
    | zero => intro I_45 H locs ls x6_45 x7_45 h; exact absurd h (Nat.not_lt_zero _)
    | succ n_45 ih_45 =>
      intro I_45 H locs ls x6_45 x7_45 hn_45 hH hv oI sm r3_45 r5_45 r6_45 r7_45 hl
      replace hv := hv.trans F_X3_assign_0_45_s
      unfold B_X3_assign_0_45 at hv
      have L_83 : ∀ (I_83 : hI) (H : Heap) (locs : List Loc) (ls : Array Slot) (x6_83 : Int32), Hp D cy L C b0 s s.heap I_83 J R H locs → TT0 = F_X3_assign_0_83 a0 a1 a2 x3 x4 x5 y1 x6_45 x7_45 (F_X3_assign_0_45 a0 a1 a2 x3 x4 x5 y1 n_45) I_83 J R x6_83 → OkI L C I_83 → Sm C ms_X3_assign_0 (I, J, R) (I_83, J, R) → Rg x3 (0) (0) → Rg x5 (-2147483648) (2147483646) → Rg x6_83 (0) (1) → Rg x7_45 (0) (3) → lv_has ls 8 [(0, .ref a0), (1, .ref a1), (2, .ref a2), (3, .int x3), (4, .int x4), (5, .int x5), (6, .int x6_83), (7, .int x7_45)] → W p l e (rmD 10) s m args below meth c H locs 0 0 Q (F0 m 83 ls []) := by
        intro I_83 H locs ls x6_83 hH hv oI sm r3_83 r5_83 r6_83 r7_83 hl
        unfold F_X3_assign_0_83 at hv
        obtain ⟨y2, ey2⟩ : ∃ y : Int32, y = x7_45 + 1 := ⟨_, rfl⟩
        replace hv := fnS hv ey2
        obtain ⟨ty2, ry2⟩ := Rg_addx (a' := (1)) (b' := (4)) (rfl : x7_45.toInt = _) (by decide : Int32.toInt 1 = 1) r7_83 (Rg_c (x := 1) (a := (1)) (b := (1)) (by decide)) (by decide)
        rw [← ey2] at ty2 ry2
        refine lv_iinc (v := y2) (lv' := [(7, .int y2), (0, .ref a0), (1, .ref a1), (2, .ref a2), (3, .int x3), (4, .int x4), (5, .int x5), (6, .int x6_83)]) hx hb dX3_assign_83 hl (k := 7) rfl (by rw [ey2]; rfl) (by decide) rfl (fun ls hl => ?_)
        refine lv_goto (tgt := 45) hx hb dX3_assign_86 (by decide) ?_
        exact ih_45 I_83 _ _ _ x6_83 y2 (lp_up hn_45 ty2 (Rg_ltc r7_83 (by decide))) hH hv oI sm r3_83 r5_83 r6_83 (Rg_w ry2 (by decide)) (lv_sub hl [1, 2, 3, 4, 5, 6, 7, 0] rfl)
      refine lv_iload hx hb dX3_assign_45 (lv_at hl 7 rfl) ?_
      refine lv_aload_n hx hb dX3_assign_47 rfl (lv_at hl 1 rfl) ?_
      refine gf_5_2 hx hb hts hown hH m1 k1 rfl kf_X3_79 dX3_assign_48 ?_
      refine lv_topi (fun y3 ey3 => ?_)
      have ry3 : Rg y3 (0) (4) := by rw [ey3]; exact rf_5_2 oI m1 k1
      replace hv := fnS hv ey3
      refine lv_icmp_ge (tgt := 89) hx hb dX3_assign_51 (by decide) (fun q4 => ?_) (fun q4 => ?_)
      rotate_left
      · replace hv := fnN hv q4
        have r24 : Rg x7_45 (0) (3) := Rg_ult r7_45 (Rg_nle q4) ry3 (by decide)
        have r25 : Rg y3 (1) (4) := Rg_llt ry3 (Rg_nle q4) r7_45 (by decide)
        refine lv_iload hx hb dX3_assign_54 (lv_at hl 4 rfl) ?_
        refine lv_iload hx hb dX3_assign_56 (lv_at hl 7 rfl) ?_
        refine lv_ishr hx hb dX3_assign_58 ?_
        refine lv_topi (fun y26 ey26 => ?_)
        replace hv := fnS hv ey26
        refine lv_iconst (v := 1) hx hb dX3_assign_59 (by decide) ?_
        refine lv_iand hx hb dX3_assign_60 ?_
        refine lv_topi (fun y27 ey27 => ?_)
        replace hv := fnS hv ey27
        have ry27 : Rg y27 0 1 := by rw [ey27]; exact Rg_and1 _
        refine lv_if_ne (tgt := 83) hx hb dX3_assign_61 (by decide) (fun q28 => ?_) (fun q28 => ?_)
        · replace hv := fnN hv q28
          have r29 : Rg y27 (1) (1) := Rg_nelo ry27 (Rg_ne q28) (Rg_c (x := 0) (a := (0)) (b := (0)) (by decide)) (by decide)
          exact L_83 I_45 _ _ _ x6_45 hH hv oI sm r3_45 r5_45 r6_45 r24 (lv_sub hl [0, 1, 2, 3, 4, 5, 6, 7] rfl)
        replace hv := fnP hv q28
        have r30 : Rg y27 (0) (0) := Rg_both ry27 (Rg_eqv q28 (Rg_c (x := 0) (a := (0)) (b := (0)) (by decide))) (by decide)
        refine lv_aload_n hx hb dX3_assign_64 rfl (lv_at hl 0 rfl) ?_
        refine lv_aload_n hx hb dX3_assign_65 rfl (lv_at hl 1 rfl) ?_
        refine lv_aload_n hx hb dX3_assign_66 rfl (lv_at hl 2 rfl) ?_
        refine lv_iload_n hx hb dX3_assign_67 rfl (lv_at hl 3 rfl) ?_
        refine lv_iload hx hb dX3_assign_68 (lv_at hl 7 rfl) ?_
        refine lv_iload hx hb dX3_assign_70 (lv_at hl 4 rfl) ?_
        refine lv_iload hx hb dX3_assign_72 (lv_at hl 5 rfl) ?_
        refine ca_X3_92 hx hb hml hown hts hH (c_X3_take_0 oI oR m0 k0 m1 k1 m2 k2 r3_45 r24) hl.1 m0 k0 rfl (by decide) (Nat.le_of_ble_eq_true rfl) ⟨Nat.zero_le _, Nat.zero_le _⟩ dX3_assign_74 (fun y31 I31 J31 R31 H locs hp hH => ?_)
        obtain ⟨⟨oI, -, sc31⟩, eJ31, eR31, ry31, hf31⟩ := hp
        obtain rfl : J = J31 := eJ31.symm
        obtain rfl : R = R31 := eR31.symm
        replace hv := fnC hv hf31
        have sm : Sm C ms_X3_assign_0 (I, J, R) (I31, J, R) := sm.tr sc31 rfl
        refine lv_if_eq (tgt := 83) hx hb dX3_assign_77 (by decide) (fun q32 => ?_) (fun q32 => ?_)
        · replace hv := fnP hv q32
          have r33 : Rg y31 (0) (0) := Rg_both ry31 (Rg_eqv q32 (Rg_c (x := 0) (a := (0)) (b := (0)) (by decide))) (by decide)
          exact L_83 I31 _ _ _ x6_45 hH hv oI sm r3_45 r5_45 r6_45 r24 (lv_sub hl [0, 1, 2, 3, 4, 5, 6, 7] rfl)
        replace hv := fnN hv q32
        have r34 : Rg y31 (1) (1) := Rg_nelo ry31 (Rg_ne q32) (Rg_c (x := 0) (a := (0)) (b := (0)) (by decide)) (by decide)
        refine lv_iconst (v := 1) hx hb dX3_assign_80 (by decide) ?_
        refine lv_istore (lv' := [(6, .int 1), (0, .ref a0), (1, .ref a1), (2, .ref a2), (3, .int x3), (4, .int x4), (5, .int x5), (7, .int x7_45)]) hx hb dX3_assign_81 hl (by decide) rfl (fun ls hl => ?_)
        exact L_83 I31 _ _ _ 1 hH hv oI sm r3_45 r5_45 (Rg_w (Rg_c (x := 1) (a := (1)) (b := (1)) (by decide)) (by decide)) r24 (lv_sub hl [1, 2, 3, 4, 5, 6, 0, 7] rfl)
      replace hv := fnP hv q4
      refine lv_aload_n hx hb dX3_assign_89 rfl (lv_at hl 0 rfl) ?_
      obtain ⟨b5, mb5, vb5, kb5⟩ := rf_3_2 oR m0 k0
      replace hv := fnR hv vb5
      refine gf_3_2 vb5 hx hb hts hown hH m0 k0 rfl kf_X3_34 dX3_assign_90 ?_
      obtain ⟨b6, mb6, vb6, kb6⟩ := rf_2_0 oR mb5 kb5
      replace hv := fnR hv vb6
      refine gf_2_0 vb6 hx hb hts hown hH mb5 kb5 rfl kf_X3_96 dX3_assign_93 ?_
      refine lv_aload_n hx hb dX3_assign_96 rfl (lv_at hl 2 rfl) ?_
      obtain ⟨b7, mb7, vb7, kb7⟩ := rf_5_3 oR m2 k2
      replace hv := fnR hv vb7
      refine gf_5_3 vb7 hx hb hts hown hH m2 k2 rfl kf_X3_102 dX3_assign_97 ?_
      refine lv_iload_n hx hb dX3_assign_100 rfl (lv_at hl 3 rfl) ?_
      refine ld_54 hx hb hH mb7 kb7 (Rg_in r3_45 (by decide)) dX3_assign_101 ?_
      refine lv_topi (fun y8 ey8 => ?_)
      have ry8 : Rg y8 (0) (6) := by rw [ey8]; exact rd_54 oI mb7 kb7 (Rg_in r3_45 (by decide))
      replace hv := fnS hv ey8
      refine ld_41 hx hb hH mb6 kb6 (Rg_in ry8 (by decide)) dX3_assign_102 ?_
      refine lv_topi (fun y9 ey9 => ?_)
      have ry9 : Rg y9 (0) (1) := by rw [ey9]; exact rd_41 oI mb6 kb6 (Rg_in ry8 (by decide))
      replace hv := fnS hv ey9
      refine lv_if_eq (tgt := 145) hx hb dX3_assign_103 (by decide) (fun q10 => ?_) (fun q10 => ?_)
      · replace hv := fnP hv q10
        have r11 : Rg y9 (0) (0) := Rg_both ry9 (Rg_eqv q10 (Rg_c (x := 0) (a := (0)) (b := (0)) (by decide))) (by decide)
        exact L_145 I_45 _ _ _ x6_45 hH hv oI sm r6_45 (lv_sub hl [6] rfl)
      replace hv := fnN hv q10
      have r12 : Rg y9 (1) (1) := Rg_nelo ry9 (Rg_ne q10) (Rg_c (x := 0) (a := (0)) (b := (0)) (by decide)) (by decide)
      refine lv_aload_n hx hb dX3_assign_106 rfl (lv_at hl 0 rfl) ?_
      obtain ⟨b13, mb13, vb13, kb13⟩ := rf_3_3 oR m0 k0
      replace hv := fnR hv vb13
      refine gf_3_3 vb13 hx hb hts hown hH m0 k0 rfl kf_X3_9 dX3_assign_107 ?_
      refine lv_iload_n hx hb dX3_assign_110 rfl (lv_at hl 3 rfl) ?_
      refine lv_bipush (v := 9) hx hb dX3_assign_111 (by decide) ?_
      refine st_43 hx hb hH mb13 kb13 (Rg_in r3_45 (by decide)) dX3_assign_113 (fun I14 H locs eI14 hH => ?_)
      replace hv := fnS hv eI14
      have oI : OkI L C I14 := by rw [eI14]; exact wr_43 oI kb13 (Rg_w (Rg_c (x := 9) (a := (9)) (b := (9)) (by decide)) (by decide)) (by first | exact Or.inl (by decide) | exact Or.inr (by decide))
      have sm : Sm C ms_X3_assign_0 (I, J, R) (I14, J, R) := by rw [eI14]; exact sm.stI kb13 (mC_arr (by decide) rfl)
      refine lv_aload_n hx hb dX3_assign_114 rfl (lv_at hl 0 rfl) ?_
      refine lv_aload_n hx hb dX3_assign_115 rfl (lv_at hl 1 rfl) ?_
      refine lv_aload_n hx hb dX3_assign_116 rfl (lv_at hl 2 rfl) ?_
      refine lv_iload_n hx hb dX3_assign_117 rfl (lv_at hl 3 rfl) ?_
      refine lv_iconst (v := 1) hx hb dX3_assign_118 (by decide) ?_
      refine lv_iadd hx hb dX3_assign_119 ?_
      refine lv_topi (fun y15 ey15 => ?_)
      replace hv := fnS hv ey15
      obtain ⟨ty15, ry15⟩ := Rg_addx (a' := (1)) (b' := (1)) (rfl : x3.toInt = _) (by decide : Int32.toInt 1 = 1) r3_45 (Rg_c (x := 1) (a := (1)) (b := (1)) (by decide)) (by decide)
      rw [← ey15] at ty15 ry15
      refine lv_iload hx hb dX3_assign_120 (lv_at hl 4 rfl) ?_
      refine lv_iload hx hb dX3_assign_122 (lv_at hl 5 rfl) ?_
      refine lv_bipush (v := 7) hx hb dX3_assign_124 (by decide) ?_
      refine lv_iadd hx hb dX3_assign_126 ?_
      refine lv_topi (fun y16 ey16 => ?_)
      replace hv := fnS hv ey16
      refine ca_X3_51 hx hb hml hown hts hH (c_X3_assign_1 oI oR m0 k0 m1 k1 m2 k2 ry15) hl.1 m0 k0 rfl (by decide) (Nat.le_of_ble_eq_true rfl) ⟨Nat.zero_le _, Nat.zero_le _⟩ dX3_assign_127 (fun y17 I17 J17 R17 H locs hp hH => ?_)
      obtain ⟨⟨oI, -, sc17⟩, eJ17, eR17, ry17, hf17⟩ := hp
      obtain rfl : J = J17 := eJ17.symm
      obtain rfl : R = R17 := eR17.symm
      replace hv := fnC hv hf17
      have sm : Sm C ms_X3_assign_0 (I, J, R) (I17, J, R) := sm.tr sc17 rfl
      refine lv_if_ne (tgt := 138) hx hb dX3_assign_130 (by decide) (fun q18 => ?_) (fun q18 => ?_)
      · replace hv := fnN hv q18
        have r19 : Rg y17 (1) (1) := Rg_nelo ry17 (Rg_ne q18) (Rg_c (x := 0) (a := (0)) (b := (0)) (by decide)) (by decide)
        exact L_138 I17 _ _ _ hH hv oI sm (lv_sub hl [] rfl)
      replace hv := fnP hv q18
      have r20 : Rg y17 (0) (0) := Rg_both ry17 (Rg_eqv q18 (Rg_c (x := 0) (a := (0)) (b := (0)) (by decide))) (by decide)
      refine lv_iload hx hb dX3_assign_133 (lv_at hl 6 rfl) ?_
      refine lv_if_eq (tgt := 142) hx hb dX3_assign_135 (by decide) (fun q21 => ?_) (fun q21 => ?_)
      rotate_left
      · replace hv := fnN hv q21
        have r23 : Rg x6_45 (1) (1) := Rg_nelo r6_45 (Rg_ne q21) (Rg_c (x := 0) (a := (0)) (b := (0)) (by decide)) (by decide)
        exact L_138 I17 _ _ _ hH hv oI sm (lv_sub hl [] rfl)
      replace hv := fnP hv q21
      have r22 : Rg x6_45 (0) (0) := Rg_both r6_45 (Rg_eqv q21 (Rg_c (x := 0) (a := (0)) (b := (0)) (by decide))) (by decide)
      refine lv_iconst (v := 0) hx hb dX3_assign_142 (by decide) ?_
      exact L_143 I17 _ _ _ 0 hH hv oI sm (Rg_w (Rg_c (x := 0) (a := (0)) (b := (0)) (by decide)) (by decide)) (lv_sub hl [] rfl)
  refine lv_icmp_lt (tgt := 11) hx hb dX3_assign_6 (by decide) (fun q35 => ?_) (fun q35 => ?_)
  rotate_left
  · replace hv := fnN hv q35
    refine lv_iconst (v := 0) hx hb dX3_assign_9 (by decide) ?_
    exact ret (0) _ _ _ _ _ _ _ dX3_assign_10 hH (Rg_01 (Rg_w (Rg_c (x := 0) (a := (0)) (b := (0)) (by decide)) (by decide))) ⟨⟨oI, oR, sm⟩, rfl, rfl, (Rg_w (Rg_c (x := 0) (a := (0)) (b := (0)) (by decide)) (by decide)), (hT.symm.trans hv)⟩
  replace hv := fnP hv q35
  have r36 : Rg x5 (-2147483648) (2147483646) := Rg_ult (Rg_any x5) (Rg_lt q35) (Rg_any y1) (by decide)
  have r37 : Rg y1 (-2147483647) (2147483647) := Rg_llt (Rg_any y1) (Rg_lt q35) (Rg_any x5) (by decide)
  refine lv_iload_n hx hb dX3_assign_11 rfl (lv_at hl 3 rfl) ?_
  refine lv_aload_n hx hb dX3_assign_12 rfl (lv_at hl 2 rfl) ?_
  refine gf_5_2 hx hb hts hown hH m2 k2 rfl kf_X3_79 dX3_assign_13 ?_
  refine lv_topi (fun y38 ey38 => ?_)
  have ry38 : Rg y38 (0) (4) := by rw [ey38]; exact rf_5_2 oI m2 k2
  replace hv := fnS hv ey38
  refine lv_icmp_lt (tgt := 39) hx hb dX3_assign_16 (by decide) (fun q39 => ?_) (fun q39 => ?_)
  · replace hv := fnP hv q39
    have r40 : Rg y38 (1) (4) := Rg_llt ry38 (Rg_lt q39) h3 (by decide)
    refine lv_iconst (v := 0) hx hb dX3_assign_39 (by decide) ?_
    refine lv_istore (lv' := [(6, .int 0), (0, .ref a0), (1, .ref a1), (2, .ref a2), (3, .int x3), (4, .int x4), (5, .int x5)]) hx hb dX3_assign_40 hl (by decide) rfl (fun ls hl => ?_)
    refine lv_iconst (v := 0) hx hb dX3_assign_42 (by decide) ?_
    refine lv_istore (lv' := [(7, .int 0), (6, .int 0), (0, .ref a0), (1, .ref a1), (2, .ref a2), (3, .int x3), (4, .int x4), (5, .int x5)]) hx hb dX3_assign_43 hl (by decide) rfl (fun ls hl => ?_)
    exact L_45 ((4 - (0 : Int32).toInt).toNat + 1) I _ _ _ 0 0 (Nat.lt_succ_self _) hH hv oI sm h3 r36 (Rg_w (Rg_c (x := 0) (a := (0)) (b := (0)) (by decide)) (by decide)) (Rg_w (Rg_c (x := 0) (a := (0)) (b := (0)) (by decide)) (by decide)) (lv_sub hl [2, 3, 4, 5, 6, 7, 1, 0] rfl)
  replace hv := fnN hv q39
  have r41 : Rg y38 (0) (0) := Rg_ule ry38 (Rg_nlt q39) h3 (by decide)
  refine lv_aload_n hx hb dX3_assign_19 rfl (lv_at hl 0 rfl) ?_
  refine lv_iload hx hb dX3_assign_20 (lv_at hl 5 rfl) ?_
  refine lv_iconst (v := 4) hx hb dX3_assign_22 (by decide) ?_
  refine lv_aload_n hx hb dX3_assign_23 rfl (lv_at hl 1 rfl) ?_
  refine gf_5_2 hx hb hts hown hH m1 k1 rfl kf_X3_79 dX3_assign_24 ?_
  refine lv_topi (fun y42 ey42 => ?_)
  have ry42 : Rg y42 (0) (4) := by rw [ey42]; exact rf_5_2 oI m1 k1
  replace hv := fnS hv ey42
  refine lv_iload hx hb dX3_assign_27 (lv_at hl 4 rfl) ?_
  refine ca_X3_82 hx hb hml hown hts hH (c_J6_bitCount_0f7a4 ) hl.1 (by decide) (Nat.le_of_ble_eq_true rfl) ⟨Nat.zero_le _, Nat.zero_le _⟩ dX3_assign_29 (fun y43 I43 J43 R43 H locs hp hH => ?_)
  obtain ⟨eI43, eJ43, eR43, hf43⟩ := hp
  obtain rfl : I = I43 := eI43.symm
  obtain rfl : J = J43 := eJ43.symm
  obtain rfl : R = R43 := eR43.symm
  replace hv := fnS hv hf43.symm
  refine lv_isub hx hb dX3_assign_32 ?_
  refine lv_topi (fun y44 ey44 => ?_)
  replace hv := fnS hv ey44
  refine lv_imul hx hb dX3_assign_33 ?_
  refine lv_topi (fun y45 ey45 => ?_)
  replace hv := fnS hv ey45
  refine lv_iadd hx hb dX3_assign_34 ?_
  refine lv_topi (fun y46 ey46 => ?_)
  replace hv := fnS hv ey46
  refine ca_X3_88 hx hb hml hown hts hH (c_X3_settle oI oR m0 k0) hl.1 m0 k0 rfl (by decide) (Nat.le_of_ble_eq_true rfl) ⟨Nat.zero_le _, Nat.zero_le _⟩ dX3_assign_35 (fun y47 I47 J47 R47 H locs hp hH => ?_)
  obtain ⟨⟨oI, -, sc47⟩, eJ47, eR47, ry47, hf47⟩ := hp
  obtain rfl : J = J47 := eJ47.symm
  obtain rfl : R = R47 := eR47.symm
  replace hv := fnC hv hf47
  have sm : Sm C ms_X3_assign_0 (I, J, R) (I47, J, R) := sm.tr sc47 rfl
  exact ret (y47) _ _ _ _ _ _ _ dX3_assign_38 hH (Rg_01 (Rg_w ry47 (by decide))) ⟨⟨oI, oR, sm⟩, rfl, rfl, ry47, (hT.symm.trans hv)⟩
noncomputable def B_X3_find_13 (a0 : Nat) (a1 : Nat) (a2 : Nat) (k_13 : hI → hJ → hR → Int32 → (Int32 × hU)) (I_13 : hI) (J : hJ) (R : hR) (x3_13 : Int32) : Int32 × hU :=
  nm (I_13 a2 1) fun y5 => (if y5 ≤ x3_13 then nm (I_13 a0 5) fun y8 => (if y8 = (-1 : Int32) then ((0 : Int32), (I_13, J, R)) else ((1 : Int32), (I_13, J, R))) else nm ((R a2 0).getD 0) fun b17 => nm ((R b17 (Int32.toNatClampNeg x3_13)).getD 0) fun b18 => nm (F_X3_startOf a0 a1 b18 I_13 J R) fun y19 => (if y19 = (-1 : Int32) then nm (x3_13 + (1 : Int32)) fun y23 => k_13 I_13 J R y23 else nmU (F_X3_assign_0 a0 a1 b18 (0 : Int32) (0 : Int32) y19 I_13 J R) fun y25 I25 _ _ => (if y25 = (0 : Int32) then nm (x3_13 + (1 : Int32)) fun y29 => k_13 I25 J R y29 else nm (u2 I25 a0 5 x3_13) fun I32 => nm (x3_13 + (1 : Int32)) fun y34 => k_13 I32 J R y34)))
noncomputable def F_X3_find_13 (a0 : Nat) (a1 : Nat) (a2 : Nat) : Nat → hI → hJ → hR → Int32 → (Int32 × hU) := fun n => Nat.rec (motive := fun _ => hI → hJ → hR → Int32 → (Int32 × hU)) (fun _ _ _ _ => default) (fun _ k => B_X3_find_13 a0 a1 a2 k) n
theorem F_X3_find_13_s {a0 : Nat} {a1 : Nat} {a2 : Nat} {n : Nat} {I_13 : hI} {J : hJ} {R : hR} {x3_13 : Int32} : F_X3_find_13 a0 a1 a2 (n + 1)  I_13 J R x3_13 = B_X3_find_13 a0 a1 a2 (F_X3_find_13 a0 a1 a2 n)  I_13 J R x3_13 := rfl
noncomputable def F_X3_find (a0 : Nat) (a1 : Nat) (a2 : Nat) (I : hI) (J : hJ) (R : hR) : Int32 × hU :=
  nm (u2 I a0 4 (268435456 : Int32)) fun I1 => nm (u2 I1 a0 5 (-1 : Int32)) fun I3 => F_X3_find_13 a0 a1 a2 ((6 - (0 : Int32).toInt).toNat + 1) I3 J R (0 : Int32)
def ms_X3_find : List Nat := [196, 197, 2752, 2816]
set_option maxHeartbeats 4000000 in
set_option maxRecDepth 100000 in
theorem c_X3_find {l : Launch} {D : va_G} {cy : Nat → ClassId} {L : List Nat} {C : Nat → Nat} {b0 : Nat} {I : hI} {J : hJ} {R : hR} {a0 : Nat} {a1 : Nat} {a2 : Nat} (oI : OkI L C I) (oR : OkR L C R) (m0 : a0 ∈ L) (k0 : C a0 = 3) (m1 : a1 ∈ L) (k1 : C a1 = 5) (m2 : a2 ∈ L) (k2 : C a2 = 7) : CI l yX3_find cX3_find 6 .boolean 11 D cy L C b0 [.ref a0, .ref a1, .ref a2] (I, J, R) (fun r v => Ps L C ms_X3_find (I, J, R) v ∧ v.2.1 = J ∧ v.2.2 = R ∧ Rg r (0) (1) ∧ ((r = 1 ∧ 0 ≤ (v.1 a0 5).toInt) ∨ r = 0) ∧ F_X3_find a0 a1 a2 I J R = (r, v)) := by
  refine CI.mkZ (plainFor_of_name (by decide)) (Nat.le_of_ble_eq_true rfl) ?_
  intro p e s m args below meth c ls Q hF ret hH hl
  obtain ⟨hx, hb, -, hml, hown, hts, -⟩ := hF
  have hl : lv_has ls 6 [(0, .ref a0), (1, .ref a1), (2, .ref a2)] := hl
  have hH : Hp D cy L C b0 s s.heap I J R s.heap [] := hH
  have sm : Sm C ms_X3_find (I, J, R) (I, J, R) := Sm.rf
  obtain ⟨TT0, hT⟩ : ∃ TT0, TT0 = F_X3_find a0 a1 a2 I J R := ⟨_, rfl⟩
  have hv := hT
  unfold F_X3_find at hv
  refine lv_aload_n hx hb dX3_find_0 rfl (lv_at hl 0 rfl) ?_
  refine lv_ldc (v := 268435456) hx hb hown (hts _ kk_X3_15) dX3_find_1 ?_
  refine pf_3_4 hx hb hts hown hH m0 k0 rfl kf_X3_16 dX3_find_3 (fun I1 H locs eI1 hH => ?_)
  replace hv := fnS hv eI1
  have oI : OkI L C I1 := by rw [eI1]; exact wf_3_4 oI k0 (Rg_w (Rg_c (x := 268435456) (a := (268435456)) (b := (268435456)) (by decide)) (by decide))
  have sm : Sm C ms_X3_find (I, J, R) (I1, J, R) := by rw [eI1]; exact sm.stI k0 (mC_obj (by decide) rfl)
  have f2 : 268435456 = I1 a0 4 := by rw [eI1, u2_at]
  refine lv_aload_n hx hb dX3_find_6 rfl (lv_at hl 0 rfl) ?_
  refine lv_iconst (v := (-1)) hx hb dX3_find_7 (by decide) ?_
  refine pf_3_5 hx hb hts hown hH m0 k0 rfl kf_X3_20 dX3_find_8 (fun I3 H locs eI3 hH => ?_)
  replace hv := fnS hv eI3
  have oI : OkI L C I3 := by rw [eI3]; exact wf_3_5 oI k0 (Rg_w (Rg_c (x := (-1)) (a := (-1)) (b := (-1)) (by decide)) (by decide))
  have sm : Sm C ms_X3_find (I, J, R) (I3, J, R) := by rw [eI3]; exact sm.stI k0 (mC_obj (by decide) rfl)
  have f4 : (-1) = I3 a0 5 := by rw [eI3, u2_at]
  refine lv_iconst (v := 0) hx hb dX3_find_11 (by decide) ?_
  refine lv_istore_n (lv' := [(3, .int 0), (0, .ref a0), (1, .ref a1), (2, .ref a2)]) hx hb dX3_find_12 rfl hl (by decide) rfl (fun ls hl => ?_)
  have L_13 : ∀ (n_13 : Nat) (I_13 : hI) (H : Heap) (locs : List Loc) (ls : Array Slot) (x3_13 : Int32), (6 - x3_13.toInt).toNat < n_13 → Hp D cy L C b0 s s.heap I_13 J R H locs → TT0 = F_X3_find_13 a0 a1 a2 n_13 I_13 J R x3_13 → OkI L C I_13 → Sm C ms_X3_find (I, J, R) (I_13, J, R) → Rg x3_13 (0) (6) → lv_has ls 6 [(0, .ref a0), (1, .ref a1), (2, .ref a2), (3, .int x3_13)] → W p l e (rmD 11) s m args below meth c H locs 0 0 Q (F0 m 13 ls []) := by
    intro n_13
    induction n_13 with
    | zero => intro I_13 H locs ls x3_13 h; exact absurd h (Nat.not_lt_zero _)
    | succ n_13 ih_13 =>
      intro I_13 H locs ls x3_13 hn_13 hH hv oI sm r3_13 hl
      replace hv := hv.trans F_X3_find_13_s
      unfold B_X3_find_13 at hv
      refine lv_iload_n hx hb dX3_find_13 rfl (lv_at hl 3 rfl) ?_
      refine lv_aload_n hx hb dX3_find_14 rfl (lv_at hl 2 rfl) ?_
      refine gf_7_1 hx hb hts hown hH m2 k2 rfl kf_X3_38 dX3_find_15 ?_
      refine lv_topi (fun y5 ey5 => ?_)
      have ry5 : Rg y5 (0) (6) := by rw [ey5]; exact rf_7_1 oI m2 k2
      replace hv := fnS hv ey5
      refine lv_icmp_ge (tgt := 69) hx hb dX3_find_18 (by decide) (fun q6 => ?_) (fun q6 => ?_)
      · replace hv := fnP hv q6
        have l7 := Rg_le q6
        refine lv_aload_n hx hb dX3_find_69 rfl (lv_at hl 0 rfl) ?_
        refine gf_3_5 hx hb hts hown hH m0 k0 rfl kf_X3_20 dX3_find_70 ?_
        refine lv_topi (fun y8 ey8 => ?_)
        have ry8 : Rg y8 (-1) (5) := by rw [ey8]; exact rf_3_5 oI m0 k0
        replace hv := fnS hv ey8
        refine lv_iconst (v := (-1)) hx hb dX3_find_73 (by decide) ?_
        refine lv_icmp_eq (tgt := 81) hx hb dX3_find_74 (by decide) (fun q9 => ?_) (fun q9 => ?_)
        · replace hv := fnP hv q9
          have l10 := congrArg Int32.toInt q9
          have r11 : Rg y8 (-1) (-1) := Rg_both ry8 (Rg_eqv q9 (Rg_c (x := (-1)) (a := (-1)) (b := (-1)) (by decide))) (by decide)
          refine lv_iconst (v := 0) hx hb dX3_find_81 (by decide) ?_
          exact ret (0) _ _ _ _ _ _ _ dX3_find_82 hH (Rg_01 (Rg_w (Rg_c (x := 0) (a := (0)) (b := (0)) (by decide)) (by decide))) ⟨⟨oI, oR, sm⟩, rfl, rfl, (Rg_w (Rg_c (x := 0) (a := (0)) (b := (0)) (by decide)) (by decide)), (by exact Or.inr rfl), (hT.symm.trans hv)⟩
        replace hv := fnN hv q9
        have l12 := Rg_ne q9
        have r13 : Rg y8 (0) (5) := Rg_nelo ry8 (Rg_ne q9) (Rg_c (x := (-1)) (a := (-1)) (b := (-1)) (by decide)) (by decide)
        refine lv_iconst (v := 1) hx hb dX3_find_77 (by decide) ?_
        refine lv_goto (tgt := 82) hx hb dX3_find_78 (by decide) ?_
        exact ret (1) _ _ _ _ _ _ _ dX3_find_82 hH (Rg_01 (Rg_w (Rg_c (x := 1) (a := (1)) (b := (1)) (by decide)) (by decide))) ⟨⟨oI, oR, sm⟩, rfl, rfl, (Rg_w (Rg_c (x := 1) (a := (1)) (b := (1)) (by decide)) (by decide)), (by refine Or.inl ⟨rfl, ?_⟩; show 0 ≤ (I_13 a0 5).toInt; rw [← ey8]; exact (Rg_w (a' := 0) (b' := 5) r13 (by decide)).1), (hT.symm.trans hv)⟩
      replace hv := fnN hv q6
      have l14 := Rg_nle q6
      have r15 : Rg x3_13 (0) (5) := Rg_ult r3_13 (Rg_nle q6) ry5 (by decide)
      have r16 : Rg y5 (1) (6) := Rg_llt ry5 (Rg_nle q6) r3_13 (by decide)
      refine lv_aload_n hx hb dX3_find_21 rfl (lv_at hl 2 rfl) ?_
      obtain ⟨b17, mb17, vb17, kb17⟩ := rf_7_0 oR m2 k2
      replace hv := fnR hv vb17
      refine gf_7_0 vb17 hx hb hts hown hH m2 k2 rfl kf_X3_43 dX3_find_22 ?_
      refine lv_iload_n hx hb dX3_find_25 rfl (lv_at hl 3 rfl) ?_
      obtain ⟨b18, mb18, vb18, kb18⟩ := rr_56 oR mb17 kb17 (Rg_in r15 (by decide))
      replace hv := fnR hv vb18
      refine ld_56 hx hb hH mb17 kb17 (Rg_in r15 (by decide)) vb18 dX3_find_26 ?_
      refine lv_astore (lv' := [(4, .ref b18), (0, .ref a0), (1, .ref a1), (2, .ref a2), (3, .int x3_13)]) hx hb dX3_find_27 hl (by decide) rfl (fun ls hl => ?_)
      refine lv_aload_n hx hb dX3_find_29 rfl (lv_at hl 1 rfl) ?_
      refine lv_aload_n hx hb dX3_find_30 rfl (lv_at hl 2 rfl) ?_
      refine lv_aload hx hb dX3_find_31 (lv_at hl 0 rfl) ?_
      refine ca_X3_47 hx hb hml hown hts hH (c_X3_startOf oI oR m0 k0 m1 k1 mb18 kb18) hl.1 m0 k0 rfl (by decide) (Nat.le_of_ble_eq_true rfl) ⟨Nat.zero_le _, Nat.zero_le _⟩ dX3_find_33 (fun y19 I19 J19 R19 H locs hp hH => ?_)
      obtain ⟨eI19, eJ19, eR19, hf19⟩ := hp
      obtain rfl : I_13 = I19 := eI19.symm
      obtain rfl : J = J19 := eJ19.symm
      obtain rfl : R = R19 := eR19.symm
      replace hv := fnS hv hf19.symm
      refine lv_istore (lv' := [(5, .int y19), (4, .ref b18), (0, .ref a0), (1, .ref a1), (2, .ref a2), (3, .int x3_13)]) hx hb dX3_find_36 hl (by decide) rfl (fun ls hl => ?_)
      refine lv_iload hx hb dX3_find_38 (lv_at hl 0 rfl) ?_
      refine lv_iconst (v := (-1)) hx hb dX3_find_40 (by decide) ?_
      refine lv_icmp_eq (tgt := 63) hx hb dX3_find_41 (by decide) (fun q20 => ?_) (fun q20 => ?_)
      · replace hv := fnP hv q20
        have l21 := congrArg Int32.toInt q20
        have r22 : Rg y19 (-1) (-1) := Rg_both (Rg_any y19) (Rg_eqv q20 (Rg_c (x := (-1)) (a := (-1)) (b := (-1)) (by decide))) (by decide)
        obtain ⟨y23, ey23⟩ : ∃ y : Int32, y = x3_13 + 1 := ⟨_, rfl⟩
        replace hv := fnS hv ey23
        obtain ⟨ty23, ry23⟩ := Rg_addx (a' := (1)) (b' := (6)) (rfl : x3_13.toInt = _) (by decide : Int32.toInt 1 = 1) r15 (Rg_c (x := 1) (a := (1)) (b := (1)) (by decide)) (by decide)
        rw [← ey23] at ty23 ry23
        refine lv_iinc (v := y23) (lv' := [(3, .int y23), (5, .int y19), (4, .ref b18), (0, .ref a0), (1, .ref a1), (2, .ref a2)]) hx hb dX3_find_63 hl (k := 5) rfl (by rw [ey23]; rfl) (by decide) rfl (fun ls hl => ?_)
        refine lv_goto (tgt := 13) hx hb dX3_find_66 (by decide) ?_
        exact ih_13 I_13 _ _ _ y23 (lp_up hn_13 ty23 (Rg_ltc r15 (by decide))) hH hv oI sm (Rg_w ry23 (by decide)) (lv_sub hl [3, 4, 5, 0] rfl)
      replace hv := fnN hv q20
      have l24 := Rg_ne q20
      refine lv_aload_n hx hb dX3_find_44 rfl (lv_at hl 2 rfl) ?_
      refine lv_aload_n hx hb dX3_find_45 rfl (lv_at hl 3 rfl) ?_
      refine lv_aload hx hb dX3_find_46 (lv_at hl 1 rfl) ?_
      refine lv_iconst (v := 0) hx hb dX3_find_48 (by decide) ?_
      refine lv_iconst (v := 0) hx hb dX3_find_49 (by decide) ?_
      refine lv_iload hx hb dX3_find_50 (lv_at hl 0 rfl) ?_
      refine ca_X3_51 hx hb hml hown hts hH (c_X3_assign_0 oI oR m0 k0 m1 k1 mb18 kb18 (Rg_c (x := 0) (a := (0)) (b := (0)) (by decide))) hl.1 m0 k0 rfl (by decide) (Nat.le_of_ble_eq_true rfl) ⟨Nat.zero_le _, Nat.zero_le _⟩ dX3_find_52 (fun y25 I25 J25 R25 H locs hp hH => ?_)
      obtain ⟨⟨oI, -, sc25⟩, eJ25, eR25, ry25, hf25⟩ := hp
      obtain rfl : J = J25 := eJ25.symm
      obtain rfl : R = R25 := eR25.symm
      replace hv := fnC hv hf25
      have sm : Sm C ms_X3_find (I, J, R) (I25, J, R) := sm.tr sc25 rfl
      refine lv_if_eq (tgt := 63) hx hb dX3_find_55 (by decide) (fun q26 => ?_) (fun q26 => ?_)
      · replace hv := fnP hv q26
        have l27 := congrArg Int32.toInt q26
        have r28 : Rg y25 (0) (0) := Rg_both ry25 (Rg_eqv q26 (Rg_c (x := 0) (a := (0)) (b := (0)) (by decide))) (by decide)
        obtain ⟨y29, ey29⟩ : ∃ y : Int32, y = x3_13 + 1 := ⟨_, rfl⟩
        replace hv := fnS hv ey29
        obtain ⟨ty29, ry29⟩ := Rg_addx (a' := (1)) (b' := (6)) (rfl : x3_13.toInt = _) (by decide : Int32.toInt 1 = 1) r15 (Rg_c (x := 1) (a := (1)) (b := (1)) (by decide)) (by decide)
        rw [← ey29] at ty29 ry29
        refine lv_iinc (v := y29) (lv' := [(3, .int y29), (5, .int y19), (4, .ref b18), (0, .ref a0), (1, .ref a1), (2, .ref a2)]) hx hb dX3_find_63 hl (k := 5) rfl (by rw [ey29]; rfl) (by decide) rfl (fun ls hl => ?_)
        refine lv_goto (tgt := 13) hx hb dX3_find_66 (by decide) ?_
        exact ih_13 I25 _ _ _ y29 (lp_up hn_13 ty29 (Rg_ltc r15 (by decide))) hH hv oI sm (Rg_w ry29 (by decide)) (lv_sub hl [3, 4, 5, 0] rfl)
      replace hv := fnN hv q26
      have l30 := Rg_ne q26
      have r31 : Rg y25 (1) (1) := Rg_nelo ry25 (Rg_ne q26) (Rg_c (x := 0) (a := (0)) (b := (0)) (by decide)) (by decide)
      refine lv_aload_n hx hb dX3_find_58 rfl (lv_at hl 2 rfl) ?_
      refine lv_iload_n hx hb dX3_find_59 rfl (lv_at hl 5 rfl) ?_
      refine pf_3_5 hx hb hts hown hH m0 k0 rfl kf_X3_20 dX3_find_60 (fun I32 H locs eI32 hH => ?_)
      replace hv := fnS hv eI32
      have oI : OkI L C I32 := by rw [eI32]; exact wf_3_5 oI k0 (Rg_w r15 (by decide))
      have sm : Sm C ms_X3_find (I, J, R) (I32, J, R) := by rw [eI32]; exact sm.stI k0 (mC_obj (by decide) rfl)
      have f33 : x3_13 = I32 a0 5 := by rw [eI32, u2_at]
      obtain ⟨y34, ey34⟩ : ∃ y : Int32, y = x3_13 + 1 := ⟨_, rfl⟩
      replace hv := fnS hv ey34
      obtain ⟨ty34, ry34⟩ := Rg_addx (a' := (1)) (b' := (6)) (rfl : x3_13.toInt = _) (by decide : Int32.toInt 1 = 1) r15 (Rg_c (x := 1) (a := (1)) (b := (1)) (by decide)) (by decide)
      rw [← ey34] at ty34 ry34
      refine lv_iinc (v := y34) (lv' := [(3, .int y34), (5, .int y19), (4, .ref b18), (0, .ref a0), (1, .ref a1), (2, .ref a2)]) hx hb dX3_find_63 hl (k := 5) rfl (by rw [ey34]; rfl) (by decide) rfl (fun ls hl => ?_)
      refine lv_goto (tgt := 13) hx hb dX3_find_66 (by decide) ?_
      exact ih_13 I32 _ _ _ y34 (lp_up hn_13 ty34 (Rg_ltc r15 (by decide))) hH hv oI sm (Rg_w ry34 (by decide)) (lv_sub hl [3, 4, 5, 0] rfl)
  exact L_13 ((6 - (0 : Int32).toInt).toNat + 1) I3 _ _ _ 0 (Nat.lt_succ_self _) hH hv oI sm (Rg_w (Rg_c (x := 0) (a := (0)) (b := (0)) (by decide)) (by decide)) (lv_sub hl [1, 2, 3, 0] rfl)
noncomputable def B_X3_costOfAll_5 (a0 : Nat) (a1 : Nat) (a2 : Nat) (k_5 : hI → hJ → hR → Int32 → Int32 → (Int32 × hU)) (I_5 : hI) (J : hJ) (R : hR) (x3_5 : Int32) (x4_5 : Int32) : Int32 × hU :=
  nm (I_5 a1 1) fun y1 => (if y1 ≤ x4_5 then (x3_5, (I_5, J, R)) else nm ((R a1 0).getD 0) fun b5 => nm ((R b5 (Int32.toNatClampNeg x4_5)).getD 0) fun b6 => nmU (F_X3_find a0 b6 a2 I_5 J R) fun y7 I7 _ _ => (if y7 = (1 : Int32) then nm (I7 a0 5) fun y8 => nm (I7 a0 4) fun y11 => nm (x3_5 + y11) fun y12 => nm (x4_5 + (1 : Int32)) fun y13 => k_5 I7 J R y12 y13 else ((-6 : Int32), (I7, J, R))))
noncomputable def F_X3_costOfAll_5 (a0 : Nat) (a1 : Nat) (a2 : Nat) : Nat → hI → hJ → hR → Int32 → Int32 → (Int32 × hU) := fun n => Nat.rec (motive := fun _ => hI → hJ → hR → Int32 → Int32 → (Int32 × hU)) (fun _ _ _ _ _ => default) (fun _ k => B_X3_costOfAll_5 a0 a1 a2 k) n
theorem F_X3_costOfAll_5_s {a0 : Nat} {a1 : Nat} {a2 : Nat} {n : Nat} {I_5 : hI} {J : hJ} {R : hR} {x3_5 : Int32} {x4_5 : Int32} : F_X3_costOfAll_5 a0 a1 a2 (n + 1)  I_5 J R x3_5 x4_5 = B_X3_costOfAll_5 a0 a1 a2 (F_X3_costOfAll_5 a0 a1 a2 n)  I_5 J R x3_5 x4_5 := rfl
noncomputable def F_X3_costOfAll (a0 : Nat) (a1 : Nat) (a2 : Nat) (I : hI) (J : hJ) (R : hR) : Int32 × hU :=
  F_X3_costOfAll_5 a0 a1 a2 ((6 - (0 : Int32).toInt).toNat + 1) I J R (0 : Int32) (0 : Int32)
def ms_X3_costOfAll : List Nat := [196, 197, 2752, 2816]
set_option maxHeartbeats 4000000 in
set_option maxRecDepth 100000 in
theorem c_X3_costOfAll {l : Launch} {D : va_G} {cy : Nat → ClassId} {L : List Nat} {C : Nat → Nat} {b0 : Nat} {I : hI} {J : hJ} {R : hR} {a0 : Nat} {a1 : Nat} {a2 : Nat} (oI : OkI L C I) (oR : OkR L C R) (m0 : a0 ∈ L) (k0 : C a0 = 3) (m1 : a1 ∈ L) (k1 : C a1 = 7) (m2 : a2 ∈ L) (k2 : C a2 = 7) : CI l yX3_costOfAll cX3_costOfAll 5 .int 12 D cy L C b0 [.ref a0, .ref a1, .ref a2] (I, J, R) (fun r v => Ps L C ms_X3_costOfAll (I, J, R) v ∧ v.2.1 = J ∧ v.2.2 = R ∧ F_X3_costOfAll a0 a1 a2 I J R = (r, v)) := by
  refine CI.mkI (plainFor_of_name (by decide)) (Nat.le_of_ble_eq_true rfl) ?_
  intro p e s m args below meth c ls Q hF ret hH hl
  obtain ⟨hx, hb, -, hml, hown, hts, -⟩ := hF
  have hl : lv_has ls 5 [(0, .ref a0), (1, .ref a1), (2, .ref a2)] := hl
  have hH : Hp D cy L C b0 s s.heap I J R s.heap [] := hH
  have sm : Sm C ms_X3_costOfAll (I, J, R) (I, J, R) := Sm.rf
  obtain ⟨TT0, hT⟩ : ∃ TT0, TT0 = F_X3_costOfAll a0 a1 a2 I J R := ⟨_, rfl⟩
  have hv := hT
  unfold F_X3_costOfAll at hv
  refine lv_iconst (v := 0) hx hb dX3_costOfAll_0 (by decide) ?_
  refine lv_istore_n (lv' := [(3, .int 0), (0, .ref a0), (1, .ref a1), (2, .ref a2)]) hx hb dX3_costOfAll_1 rfl hl (by decide) rfl (fun ls hl => ?_)
  refine lv_iconst (v := 0) hx hb dX3_costOfAll_2 (by decide) ?_
  refine lv_istore (lv' := [(4, .int 0), (3, .int 0), (0, .ref a0), (1, .ref a1), (2, .ref a2)]) hx hb dX3_costOfAll_3 hl (by decide) rfl (fun ls hl => ?_)
  have L_5 : ∀ (n_5 : Nat) (I_5 : hI) (H : Heap) (locs : List Loc) (ls : Array Slot) (x3_5 : Int32) (x4_5 : Int32), (6 - x4_5.toInt).toNat < n_5 → Hp D cy L C b0 s s.heap I_5 J R H locs → TT0 = F_X3_costOfAll_5 a0 a1 a2 n_5 I_5 J R x3_5 x4_5 → OkI L C I_5 → Sm C ms_X3_costOfAll (I, J, R) (I_5, J, R) → Rg x4_5 (0) (6) → lv_has ls 5 [(0, .ref a0), (1, .ref a1), (2, .ref a2), (3, .int x3_5), (4, .int x4_5)] → W p l e (rmD 12) s m args below meth c H locs 0 0 Q (F0 m 5 ls []) := by
    intro n_5
    induction n_5 with
    | zero => intro I_5 H locs ls x3_5 x4_5 h; exact absurd h (Nat.not_lt_zero _)
    | succ n_5 ih_5 =>
      intro I_5 H locs ls x3_5 x4_5 hn_5 hH hv oI sm r4_5 hl
      replace hv := hv.trans F_X3_costOfAll_5_s
      unfold B_X3_costOfAll_5 at hv
      refine lv_iload hx hb dX3_costOfAll_5 (lv_at hl 4 rfl) ?_
      refine lv_aload_n hx hb dX3_costOfAll_7 rfl (lv_at hl 1 rfl) ?_
      refine gf_7_1 hx hb hts hown hH m1 k1 rfl kf_X3_38 dX3_costOfAll_8 ?_
      refine lv_topi (fun y1 ey1 => ?_)
      have ry1 : Rg y1 (0) (6) := by rw [ey1]; exact rf_7_1 oI m1 k1
      replace hv := fnS hv ey1
      refine lv_icmp_ge (tgt := 45) hx hb dX3_costOfAll_11 (by decide) (fun q2 => ?_) (fun q2 => ?_)
      · replace hv := fnP hv q2
        refine lv_iload_n hx hb dX3_costOfAll_45 rfl (lv_at hl 3 rfl) ?_
        exact ret (x3_5) _ _ _ _ _ _ _ dX3_costOfAll_46 hH ⟨⟨oI, oR, sm⟩, rfl, rfl, (hT.symm.trans hv)⟩
      replace hv := fnN hv q2
      have r3 : Rg x4_5 (0) (5) := Rg_ult r4_5 (Rg_nle q2) ry1 (by decide)
      have r4 : Rg y1 (1) (6) := Rg_llt ry1 (Rg_nle q2) r4_5 (by decide)
      refine lv_aload_n hx hb dX3_costOfAll_14 rfl (lv_at hl 0 rfl) ?_
      refine lv_aload_n hx hb dX3_costOfAll_15 rfl (lv_at hl 1 rfl) ?_
      obtain ⟨b5, mb5, vb5, kb5⟩ := rf_7_0 oR m1 k1
      replace hv := fnR hv vb5
      refine gf_7_0 vb5 hx hb hts hown hH m1 k1 rfl kf_X3_43 dX3_costOfAll_16 ?_
      refine lv_iload hx hb dX3_costOfAll_19 (lv_at hl 4 rfl) ?_
      obtain ⟨b6, mb6, vb6, kb6⟩ := rr_56 oR mb5 kb5 (Rg_in r3 (by decide))
      replace hv := fnR hv vb6
      refine ld_56 hx hb hH mb5 kb5 (Rg_in r3 (by decide)) vb6 dX3_costOfAll_21 ?_
      refine lv_aload_n hx hb dX3_costOfAll_22 rfl (lv_at hl 2 rfl) ?_
      refine ca_X3_55 hx hb hml hown hts hH (c_X3_find oI oR m0 k0 mb6 kb6 m2 k2) hl.1 m0 k0 rfl (by decide) (Nat.le_of_ble_eq_true rfl) ⟨Nat.zero_le _, Nat.zero_le _⟩ dX3_costOfAll_23 (fun y7 I7 J7 R7 H locs hp hH => ?_)
      obtain ⟨⟨oI, -, sc7⟩, eJ7, eR7, ry7, hp7, hf7⟩ := hp
      obtain rfl : J = J7 := eJ7.symm
      obtain rfl : R = R7 := eR7.symm
      replace hv := fnC hv hf7
      have sm : Sm C ms_X3_costOfAll (I, J, R) (I7, J, R) := sm.tr sc7 rfl
      rcases hp7 with ⟨rfl, hq7⟩ | rfl
      rotate_left
      · replace hv := fnN hv (by decide)
        refine lv_if_ne (tgt := 32) hx hb dX3_costOfAll_26 (by decide) (fun q14 => ?_) (fun q14 => ?_)
        · exact absurd rfl q14
        refine lv_bipush (v := (-6)) hx hb dX3_costOfAll_29 (by decide) ?_
        exact ret ((-6)) _ _ _ _ _ _ _ dX3_costOfAll_31 hH ⟨⟨oI, oR, sm⟩, rfl, rfl, (hT.symm.trans hv)⟩
      replace hv := fnP hv rfl
      obtain ⟨y8, ey8⟩ : ∃ y : Int32, y = I7 a0 5 := ⟨_, rfl⟩
      replace hv := fnS hv ey8
      have ry8 : Rg y8 (-1) (5) := by rw [ey8]; exact rf_3_5 oI m0 k0
      have r9 : Rg y8 (0) (5) := ⟨by rw [ey8]; exact hq7, ry8.2⟩
      refine lv_if_ne (tgt := 32) hx hb dX3_costOfAll_26 (by decide) (fun q10 => ?_) (fun q10 => ?_)
      rotate_left
      · exact absurd q10 (by decide)
      refine lv_iload_n hx hb dX3_costOfAll_32 rfl (lv_at hl 3 rfl) ?_
      refine lv_aload_n hx hb dX3_costOfAll_33 rfl (lv_at hl 0 rfl) ?_
      refine gf_3_4 hx hb hts hown hH m0 k0 rfl kf_X3_16 dX3_costOfAll_34 ?_
      refine lv_topi (fun y11 ey11 => ?_)
      replace hv := fnS hv ey11
      refine lv_iadd hx hb dX3_costOfAll_37 ?_
      refine lv_topi (fun y12 ey12 => ?_)
      replace hv := fnS hv ey12
      refine lv_istore_n (lv' := [(3, .int y12), (0, .ref a0), (1, .ref a1), (2, .ref a2), (4, .int x4_5)]) hx hb dX3_costOfAll_38 rfl hl (by decide) rfl (fun ls hl => ?_)
      obtain ⟨y13, ey13⟩ : ∃ y : Int32, y = x4_5 + 1 := ⟨_, rfl⟩
      replace hv := fnS hv ey13
      obtain ⟨ty13, ry13⟩ := Rg_addx (a' := (1)) (b' := (6)) (rfl : x4_5.toInt = _) (by decide : Int32.toInt 1 = 1) r3 (Rg_c (x := 1) (a := (1)) (b := (1)) (by decide)) (by decide)
      rw [← ey13] at ty13 ry13
      refine lv_iinc (v := y13) (lv' := [(4, .int y13), (3, .int y12), (0, .ref a0), (1, .ref a1), (2, .ref a2)]) hx hb dX3_costOfAll_39 hl (k := 4) rfl (by rw [ey13]; rfl) (by decide) rfl (fun ls hl => ?_)
      refine lv_goto (tgt := 5) hx hb dX3_costOfAll_42 (by decide) ?_
      exact ih_5 I7 _ _ _ y12 y13 (lp_up hn_5 ty13 (Rg_ltc r3 (by decide))) hH hv oI sm (Rg_w ry13 (by decide)) (lv_sub hl [2, 3, 4, 1, 0] rfl)
  exact L_5 ((6 - (0 : Int32).toInt).toNat + 1) I _ _ _ 0 0 (Nat.lt_succ_self _) hH hv oI sm (Rg_w (Rg_c (x := 0) (a := (0)) (b := (0)) (by decide)) (by decide)) (lv_sub hl [2, 3, 4, 1, 0] rfl)
def ms_X3_firstGap : List Nat := [196, 197, 2752, 2816]
set_option maxHeartbeats 4000000 in
set_option maxRecDepth 100000 in
theorem c_X3_firstGap {l : Launch} {D : va_G} {cy : Nat → ClassId} {L : List Nat} {C : Nat → Nat} {b0 : Nat} {I : hI} {J : hJ} {R : hR} {a0 : Nat} {a1 : Nat} {a2 : Nat} (oI : OkI L C I) (oR : OkR L C R) (m0 : a0 ∈ L) (k0 : C a0 = 3) (m1 : a1 ∈ L) (k1 : C a1 = 7) (m2 : a2 ∈ L) (k2 : C a2 = 7) : CI l yX3_firstGap cX3_firstGap 4 .int 12 D cy L C b0 [.ref a0, .ref a1, .ref a2] (I, J, R) (fun r v => Ps L C ms_X3_firstGap (I, J, R) v ∧ v.2.1 = J ∧ v.2.2 = R ∧ Rg r (-1) (5)) := by
  refine CI.mkI (plainFor_of_name (by decide)) (Nat.le_of_ble_eq_true rfl) ?_
  intro p e s m args below meth c ls Q hF ret hH hl
  obtain ⟨hx, hb, -, hml, hown, hts, -⟩ := hF
  have hl : lv_has ls 4 [(0, .ref a0), (1, .ref a1), (2, .ref a2)] := hl
  have hH : Hp D cy L C b0 s s.heap I J R s.heap [] := hH
  have sm : Sm C ms_X3_firstGap (I, J, R) (I, J, R) := Sm.rf
  refine lv_iconst (v := 0) hx hb dX3_firstGap_0 (by decide) ?_
  refine lv_istore_n (lv' := [(3, .int 0), (0, .ref a0), (1, .ref a1), (2, .ref a2)]) hx hb dX3_firstGap_1 rfl hl (by decide) rfl (fun ls hl => ?_)
  have L_2 : ∀ (n_2 : Nat) (I_2 : hI) (H : Heap) (locs : List Loc) (ls : Array Slot) (x3_2 : Int32), (6 - x3_2.toInt).toNat < n_2 → Hp D cy L C b0 s s.heap I_2 J R H locs → OkI L C I_2 → Sm C ms_X3_firstGap (I, J, R) (I_2, J, R) → Rg x3_2 (0) (6) → lv_has ls 4 [(0, .ref a0), (1, .ref a1), (2, .ref a2), (3, .int x3_2)] → W p l e (rmD 12) s m args below meth c H locs 0 0 Q (F0 m 2 ls []) := by
    intro n_2
    induction n_2 with
    | zero => intro I_2 H locs ls x3_2 h; exact absurd h (Nat.not_lt_zero _)
    | succ n_2 ih_2 =>
      intro I_2 H locs ls x3_2 hn_2 hH oI sm r3_2 hl
      refine lv_iload_n hx hb dX3_firstGap_2 rfl (lv_at hl 3 rfl) ?_
      refine lv_aload_n hx hb dX3_firstGap_3 rfl (lv_at hl 1 rfl) ?_
      refine gf_7_1 hx hb hts hown hH m1 k1 rfl kf_X3_38 dX3_firstGap_4 ?_
      refine lv_topi (fun y1 ey1 => ?_)
      have ry1 : Rg y1 (0) (6) := by rw [ey1]; exact rf_7_1 oI m1 k1
      refine lv_icmp_ge (tgt := 32) hx hb dX3_firstGap_7 (by decide) (fun q2 => ?_) (fun q2 => ?_)
      · refine lv_iconst (v := (-1)) hx hb dX3_firstGap_32 (by decide) ?_
        exact ret ((-1)) _ _ _ _ _ _ _ dX3_firstGap_33 hH ⟨⟨oI, oR, sm⟩, rfl, rfl, (Rg_w (Rg_c (x := (-1)) (a := (-1)) (b := (-1)) (by decide)) (by decide))⟩
      have r3 : Rg x3_2 (0) (5) := Rg_ult r3_2 (Rg_nle q2) ry1 (by decide)
      have r4 : Rg y1 (1) (6) := Rg_llt ry1 (Rg_nle q2) r3_2 (by decide)
      refine lv_aload_n hx hb dX3_firstGap_10 rfl (lv_at hl 0 rfl) ?_
      refine lv_aload_n hx hb dX3_firstGap_11 rfl (lv_at hl 1 rfl) ?_
      obtain ⟨b5, mb5, vb5, kb5⟩ := rf_7_0 oR m1 k1
      refine gf_7_0 vb5 hx hb hts hown hH m1 k1 rfl kf_X3_43 dX3_firstGap_12 ?_
      refine lv_iload_n hx hb dX3_firstGap_15 rfl (lv_at hl 3 rfl) ?_
      obtain ⟨b6, mb6, vb6, kb6⟩ := rr_56 oR mb5 kb5 (Rg_in r3 (by decide))
      refine ld_56 hx hb hH mb5 kb5 (Rg_in r3 (by decide)) vb6 dX3_firstGap_16 ?_
      refine lv_aload_n hx hb dX3_firstGap_17 rfl (lv_at hl 2 rfl) ?_
      refine ca_X3_55 hx hb hml hown hts hH (c_X3_find oI oR m0 k0 mb6 kb6 m2 k2) hl.1 m0 k0 rfl (by decide) (Nat.le_of_ble_eq_true rfl) ⟨Nat.zero_le _, Nat.zero_le _⟩ dX3_firstGap_18 (fun y7 I7 J7 R7 H locs hp hH => ?_)
      obtain ⟨⟨oI, -, sc7⟩, eJ7, eR7, ry7, hp7, hf7⟩ := hp
      obtain rfl : J = J7 := eJ7.symm
      obtain rfl : R = R7 := eR7.symm
      have sm : Sm C ms_X3_firstGap (I, J, R) (I7, J, R) := sm.tr sc7 rfl
      rcases hp7 with ⟨rfl, hq7⟩ | rfl
      rotate_left
      · refine lv_if_ne (tgt := 26) hx hb dX3_firstGap_21 (by decide) (fun q12 => ?_) (fun q12 => ?_)
        · exact absurd rfl q12
        refine lv_iload_n hx hb dX3_firstGap_24 rfl (lv_at hl 3 rfl) ?_
        exact ret (x3_2) _ _ _ _ _ _ _ dX3_firstGap_25 hH ⟨⟨oI, oR, sm⟩, rfl, rfl, (Rg_w r3 (by decide))⟩
      obtain ⟨y8, ey8⟩ : ∃ y : Int32, y = I7 a0 5 := ⟨_, rfl⟩
      have ry8 : Rg y8 (-1) (5) := by rw [ey8]; exact rf_3_5 oI m0 k0
      have r9 : Rg y8 (0) (5) := ⟨by rw [ey8]; exact hq7, ry8.2⟩
      refine lv_if_ne (tgt := 26) hx hb dX3_firstGap_21 (by decide) (fun q10 => ?_) (fun q10 => ?_)
      rotate_left
      · exact absurd q10 (by decide)
      obtain ⟨y11, ey11⟩ : ∃ y : Int32, y = x3_2 + 1 := ⟨_, rfl⟩
      obtain ⟨ty11, ry11⟩ := Rg_addx (a' := (1)) (b' := (6)) (rfl : x3_2.toInt = _) (by decide : Int32.toInt 1 = 1) r3 (Rg_c (x := 1) (a := (1)) (b := (1)) (by decide)) (by decide)
      rw [← ey11] at ty11 ry11
      refine lv_iinc (v := y11) (lv' := [(3, .int y11), (0, .ref a0), (1, .ref a1), (2, .ref a2)]) hx hb dX3_firstGap_26 hl (k := 3) rfl (by rw [ey11]; rfl) (by decide) rfl (fun ls hl => ?_)
      refine lv_goto (tgt := 2) hx hb dX3_firstGap_29 (by decide) ?_
      exact ih_2 I7 _ _ _ y11 (lp_up hn_2 ty11 (Rg_ltc r3 (by decide))) hH oI sm (Rg_w ry11 (by decide)) (lv_sub hl [1, 2, 3, 0] rfl)
  exact L_2 ((6 - (0 : Int32).toInt).toNat + 1) I _ _ _ 0 (Nat.lt_succ_self _) hH oI sm (Rg_w (Rg_c (x := 0) (a := (0)) (b := (0)) (by decide)) (by decide)) (lv_sub hl [1, 2, 3, 0] rfl)
