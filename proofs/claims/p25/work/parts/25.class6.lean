noncomputable def F_X1_begin (a0 : Nat) (a1 : Nat) (I : hI) (J : hJ) (R : hR) : hU :=
  nm ((R a0 5).getD 0) fun b1 => nm (u2 R b1 (Int32.toNatClampNeg (0 : Int32)) (some a1)) fun R2 => nm (u2 I a0 7 (0 : Int32)) fun I3 => (I3, J, R2)
def ms_X1_begin : List Nat := [71, 3264]
set_option maxHeartbeats 4000000 in
set_option maxRecDepth 100000 in
theorem c_X1_begin {l : Launch} {D : va_G} {cy : Nat → ClassId} {L : List Nat} {C : Nat → Nat} {b0 : Nat} {I : hI} {J : hJ} {R : hR} {a0 : Nat} {a1 : Nat} (oI : OkI L C I) (oR : OkR L C R) (m0 : a0 ∈ L) (k0 : C a0 = 1) (m1 : a1 ∈ L) (k1 : C a1 = 5) : CV l yX1_begin cX1_begin 2 0 D cy L C b0 [.ref a0, .ref a1] (I, J, R) (fun v => Ps L C ms_X1_begin (I, J, R) v ∧ v.2.1 = J ∧ F_X1_begin a0 a1 I J R = v) := by
  refine CV.mk (plainFor_of_name (by decide)) (Nat.le_of_ble_eq_true rfl) ?_
  intro p e s m args below meth c ls Q hF ret hH hl
  obtain ⟨hx, hb, -, hml, hown, hts, -⟩ := hF
  have hl : lv_has ls 2 [(0, .ref a0), (1, .ref a1)] := hl
  have hH : Hp D cy L C b0 s s.heap I J R s.heap [] := hH
  have sm : Sm C ms_X1_begin (I, J, R) (I, J, R) := Sm.rf
  obtain ⟨TT0, hT⟩ : ∃ TT0, TT0 = F_X1_begin a0 a1 I J R := ⟨_, rfl⟩
  have hv := hT
  unfold F_X1_begin at hv
  refine lv_aload_n hx hb dX1_begin_0 rfl (lv_at hl 0 rfl) ?_
  obtain ⟨b1, mb1, vb1, kb1⟩ := rf_1_5 oR m0 k0
  replace hv := fnR hv vb1
  refine gf_1_5 vb1 hx hb hts hown hH m0 k0 rfl kf_X1_17 dX1_begin_1 ?_
  refine lv_iconst (v := 0) hx hb dX1_begin_4 (by decide) ?_
  refine lv_aload_n hx hb dX1_begin_5 rfl (lv_at hl 1 rfl) ?_
  refine st_51 hx hb hH mb1 kb1 (Rg_in (Rg_c (x := 0) (a := (0)) (b := (0)) (by decide)) (by decide)) m1 k1 rfl dX1_begin_6 (fun R2 H locs eR2 hH => ?_)
  replace hv := fnS hv eR2
  have oR : OkR L C R2 := by rw [eR2]; exact ws_51 oR kb1 m1 k1
  have sm : Sm C ms_X1_begin (I, J, R) (I, J, R2) := by rw [eR2]; exact sm.stR kb1 (mC_arr (by decide) rfl)
  refine lv_aload_n hx hb dX1_begin_7 rfl (lv_at hl 0 rfl) ?_
  refine lv_iconst (v := 0) hx hb dX1_begin_8 (by decide) ?_
  refine pf_1_7 hx hb hts hown hH m0 k0 rfl kf_X1_25 dX1_begin_9 (fun I3 H locs eI3 hH => ?_)
  replace hv := fnS hv eI3
  have oI : OkI L C I3 := by rw [eI3]; exact wf_1_7 oI k0 (Rg_w (Rg_c (x := 0) (a := (0)) (b := (0)) (by decide)) (by decide))
  have sm : Sm C ms_X1_begin (I, J, R) (I3, J, R2) := by rw [eI3]; exact sm.stI k0 (mC_obj (by decide) rfl)
  have f4 : 0 = I3 a0 7 := by rw [eI3, u2_at]
  exact ret _ _ _ _ _ _ _ dX1_begin_12 hH ⟨⟨oI, oR, sm⟩, rfl, (hT.symm.trans hv)⟩
noncomputable def F_X1_link (a0 : Nat) (a1 : Nat) (I : hI) (J : hJ) (R : hR) : Int32 × hU :=
  nm (I a0 7) fun y1 => (if (10 : Int32) ≤ y1 then ((0 : Int32), (I, J, R)) else nm ((R a0 2).getD 0) fun b7 => nm ((R a0 5).getD 0) fun b8 => nm ((R b8 (Int32.toNatClampNeg y1)).getD 0) fun b10 => nmU (F_X3_find b7 b10 a1 I J R) fun y11 I11 _ _ => (if y11 = (1 : Int32) then nm (I11 b7 5) fun y12 => nm ((R b7 6).getD 0) fun b15 => nm ((R a0 6).getD 0) fun b16 => nm (y1 * (4 : Int32)) fun y20 => nm (cp2 I11 b15 b16 (Int32.toNatClampNeg (0 : Int32)) (Int32.toNatClampNeg y20) (Int32.toNatClampNeg (4 : Int32))) fun I21 => nm (y1 + (1 : Int32)) fun y25 => nm (u2 I21 a0 7 y25) fun I26 => nm ((R a1 0).getD 0) fun b29 => nm ((R b29 (Int32.toNatClampNeg y12)).getD 0) fun b34 => nm (u2 R b8 (Int32.toNatClampNeg y25) (some b34)) fun R35 => ((1 : Int32), (I26, J, R35)) else ((0 : Int32), (I11, J, R))))
def ms_X1_link : List Nat := [71, 196, 197, 2752, 2816, 3264, 3328]
set_option maxHeartbeats 4000000 in
set_option maxRecDepth 100000 in
theorem c_X1_link {l : Launch} {D : va_G} {cy : Nat → ClassId} {L : List Nat} {C : Nat → Nat} {b0 : Nat} {I : hI} {J : hJ} {R : hR} {a0 : Nat} {a1 : Nat} (oI : OkI L C I) (oR : OkR L C R) (m0 : a0 ∈ L) (k0 : C a0 = 1) (m1 : a1 ∈ L) (k1 : C a1 = 7) : CI l yX1_link cX1_link 2 .boolean 12 D cy L C b0 [.ref a0, .ref a1] (I, J, R) (fun r v => Ps L C ms_X1_link (I, J, R) v ∧ v.2.1 = J ∧ Rg r (0) (1) ∧ F_X1_link a0 a1 I J R = (r, v)) := by
  refine CI.mkZ (plainFor_of_name (by decide)) (Nat.le_of_ble_eq_true rfl) ?_
  intro p e s m args below meth c ls Q hF ret hH hl
  obtain ⟨hx, hb, -, hml, hown, hts, -⟩ := hF
  have hl : lv_has ls 2 [(0, .ref a0), (1, .ref a1)] := hl
  have hH : Hp D cy L C b0 s s.heap I J R s.heap [] := hH
  have sm : Sm C ms_X1_link (I, J, R) (I, J, R) := Sm.rf
  obtain ⟨TT0, hT⟩ : ∃ TT0, TT0 = F_X1_link a0 a1 I J R := ⟨_, rfl⟩
  have hv := hT
  unfold F_X1_link at hv
  refine lv_aload_n hx hb dX1_link_0 rfl (lv_at hl 0 rfl) ?_
  refine gf_1_7 hx hb hts hown hH m0 k0 rfl kf_X1_25 dX1_link_1 ?_
  refine lv_topi (fun y1 ey1 => ?_)
  have ry1 : Rg y1 (0) (10) := by rw [ey1]; exact rf_1_7 oI m0 k0
  replace hv := fnS hv ey1
  refine lv_bipush (v := 10) hx hb dX1_link_4 (by decide) ?_
  refine lv_icmp_ge (tgt := 29) hx hb dX1_link_6 (by decide) (fun q2 => ?_) (fun q2 => ?_)
  · replace hv := fnP hv q2
    have l3 := Rg_le q2
    have r4 : Rg y1 (10) (10) := Rg_lle ry1 (Rg_le q2) (Rg_c (x := 10) (a := (10)) (b := (10)) (by decide)) (by decide)
    refine lv_iconst (v := 0) hx hb dX1_link_29 (by decide) ?_
    exact ret (0) _ _ _ _ _ _ _ dX1_link_30 hH (Rg_01 (Rg_w (Rg_c (x := 0) (a := (0)) (b := (0)) (by decide)) (by decide))) ⟨⟨oI, oR, sm⟩, rfl, (Rg_w (Rg_c (x := 0) (a := (0)) (b := (0)) (by decide)) (by decide)), (hT.symm.trans hv)⟩
  replace hv := fnN hv q2
  have l5 := Rg_nle q2
  have r6 : Rg y1 (0) (9) := Rg_ult ry1 (Rg_nle q2) (Rg_c (x := 10) (a := (10)) (b := (10)) (by decide)) (by decide)
  refine lv_aload_n hx hb dX1_link_9 rfl (lv_at hl 0 rfl) ?_
  obtain ⟨b7, mb7, vb7, kb7⟩ := rf_1_2 oR m0 k0
  replace hv := fnR hv vb7
  refine gf_1_2 vb7 hx hb hts hown hH m0 k0 rfl kf_X1_47 dX1_link_10 ?_
  refine lv_aload_n hx hb dX1_link_13 rfl (lv_at hl 0 rfl) ?_
  obtain ⟨b8, mb8, vb8, kb8⟩ := rf_1_5 oR m0 k0
  replace hv := fnR hv vb8
  refine gf_1_5 vb8 hx hb hts hown hH m0 k0 rfl kf_X1_17 dX1_link_14 ?_
  refine lv_aload_n hx hb dX1_link_17 rfl (lv_at hl 0 rfl) ?_
  refine gf_1_7 hx hb hts hown hH m0 k0 rfl kf_X1_25 dX1_link_18 ?_
  refine lv_topi (fun y9 ey9 => ?_)
  obtain rfl : y1 = y9 := ey1.trans ey9.symm
  obtain ⟨b10, mb10, vb10, kb10⟩ := rr_51 oR mb8 kb8 (Rg_in r6 (by decide))
  replace hv := fnR hv vb10
  refine ld_51 hx hb hH mb8 kb8 (Rg_in r6 (by decide)) vb10 dX1_link_21 ?_
  refine lv_aload_n hx hb dX1_link_22 rfl (lv_at hl 1 rfl) ?_
  refine ca_X1_56 hx hb hml hown hts hH (c_X3_find oI oR mb7 kb7 mb10 kb10 m1 k1) hl.1 mb7 kb7 rfl (by decide) (Nat.le_of_ble_eq_true rfl) ⟨Nat.zero_le _, Nat.zero_le _⟩ dX1_link_23 (fun y11 I11 J11 R11 H locs hp hH => ?_)
  obtain ⟨⟨oI, -, sc11⟩, eJ11, eR11, ry11, hp11, hf11⟩ := hp
  obtain rfl : J = J11 := eJ11.symm
  obtain rfl : R = R11 := eR11.symm
  replace hv := fnC hv hf11
  have sm : Sm C ms_X1_link (I, J, R) (I11, J, R) := sm.tr sc11 rfl
  rcases hp11 with ⟨rfl, hq11⟩ | rfl
  rotate_left
  · replace hv := fnN hv (by decide)
    refine lv_if_ne (tgt := 31) hx hb dX1_link_26 (by decide) (fun q36 => ?_) (fun q36 => ?_)
    · exact absurd rfl q36
    refine lv_iconst (v := 0) hx hb dX1_link_29 (by decide) ?_
    exact ret (0) _ _ _ _ _ _ _ dX1_link_30 hH (Rg_01 (Rg_w (Rg_c (x := 0) (a := (0)) (b := (0)) (by decide)) (by decide))) ⟨⟨oI, oR, sm⟩, rfl, (Rg_w (Rg_c (x := 0) (a := (0)) (b := (0)) (by decide)) (by decide)), (hT.symm.trans hv)⟩
  replace hv := fnP hv rfl
  obtain ⟨y12, ey12⟩ : ∃ y : Int32, y = I11 b7 5 := ⟨_, rfl⟩
  replace hv := fnS hv ey12
  have ry12 : Rg y12 (-1) (5) := by rw [ey12]; exact rf_3_5 oI mb7 kb7
  have r13 : Rg y12 (0) (5) := ⟨by rw [ey12]; exact hq11, ry12.2⟩
  refine lv_if_ne (tgt := 31) hx hb dX1_link_26 (by decide) (fun q14 => ?_) (fun q14 => ?_)
  rotate_left
  · exact absurd q14 (by decide)
  refine lv_aload_n hx hb dX1_link_31 rfl (lv_at hl 0 rfl) ?_
  refine gf_1_2 vb7 hx hb hts hown hH m0 k0 rfl kf_X1_47 dX1_link_32 ?_
  obtain ⟨b15, mb15, vb15, kb15⟩ := rf_3_6 oR mb7 kb7
  replace hv := fnR hv vb15
  refine gf_3_6 vb15 hx hb hts hown hH mb7 kb7 rfl kf_X1_62 dX1_link_35 ?_
  refine lv_iconst (v := 0) hx hb dX1_link_38 (by decide) ?_
  refine lv_aload_n hx hb dX1_link_39 rfl (lv_at hl 0 rfl) ?_
  obtain ⟨b16, mb16, vb16, kb16⟩ := rf_1_6 oR m0 k0
  replace hv := fnR hv vb16
  refine gf_1_6 vb16 hx hb hts hown hH m0 k0 rfl kf_X1_21 dX1_link_40 ?_
  refine lv_aload_n hx hb dX1_link_43 rfl (lv_at hl 0 rfl) ?_
  have f18 : I11 a0 (7) = I a0 (7) := ((sc11 a0 7 (by rw [k0]; exact (by decide))).1)
  have f17 : y1 = I11 a0 (7) := ey1.trans f18.symm
  refine gf_1_7 hx hb hts hown hH m0 k0 rfl kf_X1_25 dX1_link_44 ?_
  refine lv_topi (fun y19 ey19 => ?_)
  obtain rfl : y1 = y19 := f17.trans ey19.symm
  refine lv_iconst (v := 4) hx hb dX1_link_47 (by decide) ?_
  refine lv_imul hx hb dX1_link_48 ?_
  refine lv_topi (fun y20 ey20 => ?_)
  replace hv := fnS hv ey20
  obtain ⟨ty20, ry20⟩ := Rg_mulx (a' := (0)) (b' := (36)) (rfl : y1.toInt = _) (by decide : Int32.toInt 4 = 4) r6 (Rg_c (x := 4) (a := (4)) (b := (4)) (by decide)) (by decide)
  rw [← ey20] at ty20 ry20
  refine lv_iconst (v := 4) hx hb dX1_link_49 (by decide) ?_
  refine hCpy (r0 := 44) (r1 := 52) hx hb (hml.trans hl.1.symm) hown hts km_X1_63 hH mb15 kb15 rfl mb16 kb16 rfl (by decide) (fun z => by have h9 := Rg_lt z; have h8 := ry20.1; rw [show Int32.toInt 0 = 0 by decide] at h9; omega) (by decide) (by decide) (by have h8 := Rg_nat ry20 (n := 37) (by decide); show _ + 4 ≤ 40; omega) (by decide) (Nat.le_of_ble_eq_true rfl) dX1_link_50 (fun I21 H locs eI21 hH => ?_)
  replace hv := fnS hv eI21
  have oI : OkI L C I21 := by rw [eI21]; exact oI.cp mb15 kb15 kb16 rfl (by decide) (fun k => ⟨rfl, rfl, rfl, rfl⟩)
  have sm : Sm C ms_X1_link (I, J, R) (I21, J, R) := by rw [eI21]; exact sm.cp kb16 (by decide) rfl
  refine lv_aload_n hx hb dX1_link_53 rfl (lv_at hl 0 rfl) ?_
  refine lv_dup hx hb dX1_link_54 rfl ?_
  have f23 : I21 a0 (7) = I11 a0 (7) := (by rw [eI21, cp2_ne (ne_role k0 kb16 (by decide))])
  have f22 : y1 = I21 a0 (7) := f17.trans f23.symm
  refine gf_1_7 hx hb hts hown hH m0 k0 rfl kf_X1_25 dX1_link_55 ?_
  refine lv_topi (fun y24 ey24 => ?_)
  obtain rfl : y1 = y24 := f22.trans ey24.symm
  refine lv_iconst (v := 1) hx hb dX1_link_58 (by decide) ?_
  refine lv_iadd hx hb dX1_link_59 ?_
  refine lv_topi (fun y25 ey25 => ?_)
  replace hv := fnS hv ey25
  obtain ⟨ty25, ry25⟩ := Rg_addx (a' := (1)) (b' := (10)) (rfl : y1.toInt = _) (by decide : Int32.toInt 1 = 1) r6 (Rg_c (x := 1) (a := (1)) (b := (1)) (by decide)) (by decide)
  rw [← ey25] at ty25 ry25
  refine pf_1_7 hx hb hts hown hH m0 k0 rfl kf_X1_25 dX1_link_60 (fun I26 H locs eI26 hH => ?_)
  replace hv := fnS hv eI26
  have oI : OkI L C I26 := by rw [eI26]; exact wf_1_7 oI k0 (Rg_w ry25 (by decide))
  have sm : Sm C ms_X1_link (I, J, R) (I26, J, R) := by rw [eI26]; exact sm.stI k0 (mC_obj (by decide) rfl)
  have f27 : y25 = I26 a0 7 := by rw [eI26, u2_at]
  refine lv_aload_n hx hb dX1_link_63 rfl (lv_at hl 0 rfl) ?_
  refine gf_1_5 vb8 hx hb hts hown hH m0 k0 rfl kf_X1_17 dX1_link_64 ?_
  refine lv_aload_n hx hb dX1_link_67 rfl (lv_at hl 0 rfl) ?_
  refine gf_1_7 hx hb hts hown hH m0 k0 rfl kf_X1_25 dX1_link_68 ?_
  refine lv_topi (fun y28 ey28 => ?_)
  obtain rfl : y25 = y28 := f27.trans ey28.symm
  refine lv_aload_n hx hb dX1_link_71 rfl (lv_at hl 1 rfl) ?_
  obtain ⟨b29, mb29, vb29, kb29⟩ := rf_7_0 oR m1 k1
  replace hv := fnR hv vb29
  refine gf_7_0 vb29 hx hb hts hown hH m1 k1 rfl kf_X1_69 dX1_link_72 ?_
  refine lv_aload_n hx hb dX1_link_75 rfl (lv_at hl 0 rfl) ?_
  refine gf_1_2 vb7 hx hb hts hown hH m0 k0 rfl kf_X1_47 dX1_link_76 ?_
  have f31 : I21 b7 (5) = I11 b7 (5) := (by rw [eI21, cp2_ne (ne_role kb7 kb16 (by decide))])
  have f32 : I26 b7 (5) = I21 b7 (5) := (by rw [eI26, u2_ne (ne_role kb7 k0 (by decide))])
  have f30 : y12 = I26 b7 (5) := (ey12.trans f31.symm).trans f32.symm
  refine gf_3_5 hx hb hts hown hH mb7 kb7 rfl kf_X1_74 dX1_link_79 ?_
  refine lv_topi (fun y33 ey33 => ?_)
  obtain rfl : y12 = y33 := f30.trans ey33.symm
  obtain ⟨b34, mb34, vb34, kb34⟩ := rr_56 oR mb29 kb29 (Rg_in r13 (by decide))
  replace hv := fnR hv vb34
  refine ld_56 hx hb hH mb29 kb29 (Rg_in r13 (by decide)) vb34 dX1_link_82 ?_
  refine st_51 hx hb hH mb8 kb8 (Rg_in ry25 (by decide)) mb34 kb34 rfl dX1_link_83 (fun R35 H locs eR35 hH => ?_)
  replace hv := fnS hv eR35
  have oR : OkR L C R35 := by rw [eR35]; exact ws_51 oR kb8 mb34 kb34
  have sm : Sm C ms_X1_link (I, J, R) (I26, J, R35) := by rw [eR35]; exact sm.stR kb8 (mC_arr (by decide) rfl)
  refine lv_iconst (v := 1) hx hb dX1_link_84 (by decide) ?_
  exact ret (1) _ _ _ _ _ _ _ dX1_link_85 hH (Rg_01 (Rg_w (Rg_c (x := 1) (a := (1)) (b := (1)) (by decide)) (by decide))) ⟨⟨oI, oR, sm⟩, rfl, (Rg_w (Rg_c (x := 1) (a := (1)) (b := (1)) (by decide)) (by decide)), (hT.symm.trans hv)⟩
noncomputable def B_X1_takeHand_9 (a0 : Nat) (b2 : Nat) (b1 : Nat) (k_9 : hI → hJ → hR → Int32 → (Int32 × hU)) (I_9 : hI) (J_9 : hJ) (R : hR) (x2_9 : Int32) : Int32 × hU :=
  nm (I_9 b2 2) fun y3 => (if y3 ≤ x2_9 then ((1 : Int32), (I_9, J_9, R)) else nm ((R b2 3).getD 0) fun b7 => nm (I_9 b7 (Int32.toNatClampNeg x2_9)) fun y8 => nm ((R a0 4).getD 0) fun b9 => nm (J_9 b9 (Int32.toNatClampNeg x2_9)) fun w10 => nm (F_X10_isOf y8 w10) fun y11 => (if y11 = (0 : Int32) then nm ((R a0 3).getD 0) fun b19 => nmW (F_X4_noteFailure b19 (0 : Int32) (-1 : Int32) I_9 J_9 R) fun I20 _ _ => ((0 : Int32), (I20, J_9, R)) else nm ((R a0 8).getD 0) fun b14 => nm (J_9 b9 (Int32.toNatClampNeg x2_9)) fun w15 => nm (u2 J_9 b14 (Int32.toNatClampNeg x2_9) w15) fun J16 => nm (x2_9 + (1 : Int32)) fun y17 => k_9 I_9 J16 R y17))
noncomputable def F_X1_takeHand_9 (a0 : Nat) (b2 : Nat) (b1 : Nat) : Nat → hI → hJ → hR → Int32 → (Int32 × hU) := fun n => Nat.rec (motive := fun _ => hI → hJ → hR → Int32 → (Int32 × hU)) (fun _ _ _ _ => default) (fun _ k => B_X1_takeHand_9 a0 b2 b1 k) n
theorem F_X1_takeHand_9_s {a0 : Nat} {b2 : Nat} {b1 : Nat} {n : Nat} {I_9 : hI} {J_9 : hJ} {R : hR} {x2_9 : Int32} : F_X1_takeHand_9 a0 b2 b1 (n + 1)  I_9 J_9 R x2_9 = B_X1_takeHand_9 a0 b2 b1 (F_X1_takeHand_9 a0 b2 b1 n)  I_9 J_9 R x2_9 := rfl
noncomputable def F_X1_takeHand (a0 : Nat) (I : hI) (J : hJ) (R : hR) : Int32 × hU :=
  nm ((R a0 5).getD 0) fun b1 => nm ((R b1 (Int32.toNatClampNeg (0 : Int32))).getD 0) fun b2 => F_X1_takeHand_9 a0 b2 b1 ((4 - (0 : Int32).toInt).toNat + 1) I J R (0 : Int32)
def ms_X1_takeHand : List Nat := [257, 258, 3392]
set_option maxHeartbeats 4000000 in
set_option maxRecDepth 100000 in
theorem c_X1_takeHand {l : Launch} {D : va_G} {cy : Nat → ClassId} {L : List Nat} {C : Nat → Nat} {b0 : Nat} {I : hI} {J : hJ} {R : hR} {a0 : Nat} (oI : OkI L C I) (oR : OkR L C R) (m0 : a0 ∈ L) (k0 : C a0 = 1) : CI l yX1_takeHand cX1_takeHand 3 .boolean 1 D cy L C b0 [.ref a0] (I, J, R) (fun r v => Ps L C ms_X1_takeHand (I, J, R) v ∧ v.2.2 = R ∧ Rg r (0) (1) ∧ F_X1_takeHand a0 I J R = (r, v)) := by
  refine CI.mkZ (plainFor_of_name (by decide)) (Nat.le_of_ble_eq_true rfl) ?_
  intro p e s m args below meth c ls Q hF ret hH hl
  obtain ⟨hx, hb, -, hml, hown, hts, -⟩ := hF
  have hl : lv_has ls 3 [(0, .ref a0)] := hl
  have hH : Hp D cy L C b0 s s.heap I J R s.heap [] := hH
  have sm : Sm C ms_X1_takeHand (I, J, R) (I, J, R) := Sm.rf
  obtain ⟨TT0, hT⟩ : ∃ TT0, TT0 = F_X1_takeHand a0 I J R := ⟨_, rfl⟩
  have hv := hT
  unfold F_X1_takeHand at hv
  refine lv_aload_n hx hb dX1_takeHand_0 rfl (lv_at hl 0 rfl) ?_
  obtain ⟨b1, mb1, vb1, kb1⟩ := rf_1_5 oR m0 k0
  replace hv := fnR hv vb1
  refine gf_1_5 vb1 hx hb hts hown hH m0 k0 rfl kf_X1_17 dX1_takeHand_1 ?_
  refine lv_iconst (v := 0) hx hb dX1_takeHand_4 (by decide) ?_
  obtain ⟨b2, mb2, vb2, kb2⟩ := rr_51 oR mb1 kb1 (Rg_in (Rg_c (x := 0) (a := (0)) (b := (0)) (by decide)) (by decide))
  replace hv := fnR hv vb2
  refine ld_51 hx hb hH mb1 kb1 (Rg_in (Rg_c (x := 0) (a := (0)) (b := (0)) (by decide)) (by decide)) vb2 dX1_takeHand_5 ?_
  refine lv_astore_n (lv' := [(1, .ref b2), (0, .ref a0)]) hx hb dX1_takeHand_6 rfl hl (by decide) rfl (fun ls hl => ?_)
  refine lv_iconst (v := 0) hx hb dX1_takeHand_7 (by decide) ?_
  refine lv_istore_n (lv' := [(2, .int 0), (1, .ref b2), (0, .ref a0)]) hx hb dX1_takeHand_8 rfl hl (by decide) rfl (fun ls hl => ?_)
  have L_9 : ∀ (n_9 : Nat) (I_9 : hI) (J_9 : hJ) (H : Heap) (locs : List Loc) (ls : Array Slot) (x2_9 : Int32), (4 - x2_9.toInt).toNat < n_9 → Hp D cy L C b0 s s.heap I_9 J_9 R H locs → TT0 = F_X1_takeHand_9 a0 b2 b1 n_9 I_9 J_9 R x2_9 → OkI L C I_9 → Sm C ms_X1_takeHand (I, J, R) (I_9, J_9, R) → Rg x2_9 (0) (4) → lv_has ls 3 [(0, .ref a0), (1, .ref b2), (2, .int x2_9)] → W p l e (rmD 1) s m args below meth c H locs 0 0 Q (F0 m 9 ls []) := by
    intro n_9
    induction n_9 with
    | zero => intro I_9 J_9 H locs ls x2_9 h; exact absurd h (Nat.not_lt_zero _)
    | succ n_9 ih_9 =>
      intro I_9 J_9 H locs ls x2_9 hn_9 hH hv oI sm r2_9 hl
      replace hv := hv.trans F_X1_takeHand_9_s
      unfold B_X1_takeHand_9 at hv
      refine lv_iload_n hx hb dX1_takeHand_9 rfl (lv_at hl 2 rfl) ?_
      refine lv_aload_n hx hb dX1_takeHand_10 rfl (lv_at hl 1 rfl) ?_
      refine gf_5_2 hx hb hts hown hH mb2 kb2 rfl kf_X1_102 dX1_takeHand_11 ?_
      refine lv_topi (fun y3 ey3 => ?_)
      have ry3 : Rg y3 (0) (4) := by rw [ey3]; exact rf_5_2 oI mb2 kb2
      replace hv := fnS hv ey3
      refine lv_icmp_ge (tgt := 64) hx hb dX1_takeHand_14 (by decide) (fun q4 => ?_) (fun q4 => ?_)
      · replace hv := fnP hv q4
        refine lv_iconst (v := 1) hx hb dX1_takeHand_64 (by decide) ?_
        exact ret (1) _ _ _ _ _ _ _ dX1_takeHand_65 hH (Rg_01 (Rg_w (Rg_c (x := 1) (a := (1)) (b := (1)) (by decide)) (by decide))) ⟨⟨oI, oR, sm⟩, rfl, (Rg_w (Rg_c (x := 1) (a := (1)) (b := (1)) (by decide)) (by decide)), (hT.symm.trans hv)⟩
      replace hv := fnN hv q4
      have r5 : Rg x2_9 (0) (3) := Rg_ult r2_9 (Rg_nle q4) ry3 (by decide)
      have r6 : Rg y3 (1) (4) := Rg_llt ry3 (Rg_nle q4) r2_9 (by decide)
      refine lv_aload_n hx hb dX1_takeHand_17 rfl (lv_at hl 1 rfl) ?_
      obtain ⟨b7, mb7, vb7, kb7⟩ := rf_5_3 oR mb2 kb2
      replace hv := fnR hv vb7
      refine gf_5_3 vb7 hx hb hts hown hH mb2 kb2 rfl kf_X1_105 dX1_takeHand_18 ?_
      refine lv_iload_n hx hb dX1_takeHand_21 rfl (lv_at hl 2 rfl) ?_
      refine ld_54 hx hb hH mb7 kb7 (Rg_in r5 (by decide)) dX1_takeHand_22 ?_
      refine lv_topi (fun y8 ey8 => ?_)
      have ry8 : Rg y8 (0) (6) := by rw [ey8]; exact rd_54 oI mb7 kb7 (Rg_in r5 (by decide))
      replace hv := fnS hv ey8
      refine lv_aload_n hx hb dX1_takeHand_23 rfl (lv_at hl 0 rfl) ?_
      obtain ⟨b9, mb9, vb9, kb9⟩ := rf_1_4 oR m0 k0
      replace hv := fnR hv vb9
      refine gf_1_4 vb9 hx hb hts hown hH m0 k0 rfl kf_X1_9 dX1_takeHand_24 ?_
      refine lv_iload_n hx hb dX1_takeHand_27 rfl (lv_at hl 2 rfl) ?_
      refine ld_50 hx hb hH mb9 kb9 (Rg_in r5 (by decide)) dX1_takeHand_28 ?_
      refine lv_topl (fun w10 ew10 => ?_)
      replace hv := fnS hv ew10
      refine ca_X1_108 hx hb hml hown hts hH (c_X10_isOf ry8) hl.1 (by decide) (Nat.le_of_ble_eq_true rfl) ⟨Nat.zero_le _, Nat.zero_le _⟩ dX1_takeHand_29 (fun y11 I11 J11 R11 H locs hp hH => ?_)
      obtain ⟨eI11, eJ11, eR11, ry11, hp11, hf11⟩ := hp
      obtain rfl : I_9 = I11 := eI11.symm
      obtain rfl : J_9 = J11 := eJ11.symm
      obtain rfl : R = R11 := eR11.symm
      replace hv := fnS hv hf11.symm
      refine lv_if_ne (tgt := 46) hx hb dX1_takeHand_32 (by decide) (fun q12 => ?_) (fun q12 => ?_)
      rotate_left
      · replace hv := fnP hv q12
        have r18 : Rg y11 (0) (0) := Rg_both ry11 (Rg_eqv q12 (Rg_c (x := 0) (a := (0)) (b := (0)) (by decide))) (by decide)
        refine lv_aload_n hx hb dX1_takeHand_35 rfl (lv_at hl 0 rfl) ?_
        obtain ⟨b19, mb19, vb19, kb19⟩ := rf_1_3 oR m0 k0
        replace hv := fnR hv vb19
        refine gf_1_3 vb19 hx hb hts hown hH m0 k0 rfl kf_X1_51 dX1_takeHand_36 ?_
        refine lv_iconst (v := 0) hx hb dX1_takeHand_39 (by decide) ?_
        refine lv_iconst (v := (-1)) hx hb dX1_takeHand_40 (by decide) ?_
        refine ca_X1_112 hx hb hml hown hts hH (c_X4_noteFailure oI oR mb19 kb19) hl.1 mb19 kb19 rfl (by decide) (Nat.le_of_ble_eq_true rfl) ⟨Nat.zero_le _, Nat.zero_le _⟩ dX1_takeHand_41 (fun I20 J20 R20 H locs hp hH => ?_)
        obtain ⟨⟨oI, -, sc20⟩, eJ20, eR20, hf20⟩ := hp
        obtain rfl : J_9 = J20 := eJ20.symm
        obtain rfl : R = R20 := eR20.symm
        replace hv := fnW hv hf20
        have sm : Sm C ms_X1_takeHand (I, J, R) (I20, J_9, R) := sm.tr sc20 rfl
        refine lv_iconst (v := 0) hx hb dX1_takeHand_44 (by decide) ?_
        exact ret (0) _ _ _ _ _ _ _ dX1_takeHand_45 hH (Rg_01 (Rg_w (Rg_c (x := 0) (a := (0)) (b := (0)) (by decide)) (by decide))) ⟨⟨oI, oR, sm⟩, rfl, (Rg_w (Rg_c (x := 0) (a := (0)) (b := (0)) (by decide)) (by decide)), (hT.symm.trans hv)⟩
      replace hv := fnN hv q12
      have r13 : Rg y11 (1) (1) := Rg_nelo ry11 (Rg_ne q12) (Rg_c (x := 0) (a := (0)) (b := (0)) (by decide)) (by decide)
      refine lv_aload_n hx hb dX1_takeHand_46 rfl (lv_at hl 0 rfl) ?_
      obtain ⟨b14, mb14, vb14, kb14⟩ := rf_1_8 oR m0 k0
      replace hv := fnR hv vb14
      refine gf_1_8 vb14 hx hb hts hown hH m0 k0 rfl kf_X1_29 dX1_takeHand_47 ?_
      refine lv_iload_n hx hb dX1_takeHand_50 rfl (lv_at hl 2 rfl) ?_
      refine lv_aload_n hx hb dX1_takeHand_51 rfl (lv_at hl 0 rfl) ?_
      refine gf_1_4 vb9 hx hb hts hown hH m0 k0 rfl kf_X1_9 dX1_takeHand_52 ?_
      refine lv_iload_n hx hb dX1_takeHand_55 rfl (lv_at hl 2 rfl) ?_
      refine ld_50 hx hb hH mb9 kb9 (Rg_in r5 (by decide)) dX1_takeHand_56 ?_
      refine lv_topl (fun w15 ew15 => ?_)
      replace hv := fnS hv ew15
      refine st_53 hx hb hH mb14 kb14 (Rg_in r5 (by decide)) dX1_takeHand_57 (fun J16 H locs eJ16 hH => ?_)
      replace hv := fnS hv eJ16
      have sm : Sm C ms_X1_takeHand (I, J, R) (I_9, J16, R) := by rw [eJ16]; exact sm.stJ kb14 (mC_arr (by decide) rfl)
      obtain ⟨y17, ey17⟩ : ∃ y : Int32, y = x2_9 + 1 := ⟨_, rfl⟩
      replace hv := fnS hv ey17
      obtain ⟨ty17, ry17⟩ := Rg_addx (a' := (1)) (b' := (4)) (rfl : x2_9.toInt = _) (by decide : Int32.toInt 1 = 1) r5 (Rg_c (x := 1) (a := (1)) (b := (1)) (by decide)) (by decide)
      rw [← ey17] at ty17 ry17
      refine lv_iinc (v := y17) (lv' := [(2, .int y17), (0, .ref a0), (1, .ref b2)]) hx hb dX1_takeHand_58 hl (k := 2) rfl (by rw [ey17]; rfl) (by decide) rfl (fun ls hl => ?_)
      refine lv_goto (tgt := 9) hx hb dX1_takeHand_61 (by decide) ?_
      exact ih_9 I_9 J16 _ _ _ y17 (lp_up hn_9 ty17 (Rg_ltc r5 (by decide))) hH hv oI sm (Rg_w ry17 (by decide)) (lv_sub hl [1, 2, 0] rfl)
  exact L_9 ((4 - (0 : Int32).toInt).toNat + 1) I J _ _ _ 0 (Nat.lt_succ_self _) hH hv oI sm (Rg_w (Rg_c (x := 0) (a := (0)) (b := (0)) (by decide)) (by decide)) (lv_sub hl [2, 1, 0] rfl)
noncomputable def B_X1_passTo_19 (a0 : Nat) (x1 : Int32) (b4 : Nat) (b2 : Nat) (b1 : Nat) (y3 : Int32) (k_19 : hI → hJ → hR → Int32 → (Int32 × hU)) (I_19 : hI) (J_19 : hJ) (R : hR) (x4_19 : Int32) : Int32 × hU :=
  nm (I_19 b4 2) fun y5 => (if y5 ≤ x4_19 then ((1 : Int32), (I_19, J_19, R)) else nm ((R a0 6).getD 0) fun b11 => nm (x1 * (4 : Int32)) fun y12 => nm (y12 + x4_19) fun y13 => nm (I_19 b11 (Int32.toNatClampNeg y13)) fun y14 => (if y14 = (9 : Int32) then nm ((R a0 9).getD 0) fun b38 => nm ((R a0 1).getD 0) fun b39 => nm ((R b39 1).getD 0) fun b40 => nm ((R b4 3).getD 0) fun b41 => nm (I_19 b41 (Int32.toNatClampNeg x4_19)) fun y42 => nm (J_19 b40 (Int32.toNatClampNeg y42)) fun w43 => nm (u2 J_19 b38 (Int32.toNatClampNeg x4_19) w43) fun J44 => nm (x4_19 + (1 : Int32)) fun y45 => k_19 I_19 J44 R y45 else nm ((R a0 0).getD 0) fun b19 => nm ((R b2 3).getD 0) fun b20 => nm (I_19 b20 (Int32.toNatClampNeg y14)) fun y21 => nm ((R b4 3).getD 0) fun b22 => nm (I_19 b22 (Int32.toNatClampNeg x4_19)) fun y23 => nm ((R a0 8).getD 0) fun b24 => nm (J_19 b24 (Int32.toNatClampNeg y14)) fun w25 => nmU (F_X6_carry b19 y21 y23 w25 I_19 J_19 R) fun y26 I26 J26 _ => (if y26 = (0 : Int32) then ((0 : Int32), (I26, J26, R)) else nm ((R a0 9).getD 0) fun b32 => nm (J26 b19 10) fun w33 => nm (u2 J26 b32 (Int32.toNatClampNeg x4_19) w33) fun J34 => nm (x4_19 + (1 : Int32)) fun y35 => k_19 I26 J34 R y35)))
noncomputable def F_X1_passTo_19 (a0 : Nat) (x1 : Int32) (b4 : Nat) (b2 : Nat) (b1 : Nat) (y3 : Int32) : Nat → hI → hJ → hR → Int32 → (Int32 × hU) := fun n => Nat.rec (motive := fun _ => hI → hJ → hR → Int32 → (Int32 × hU)) (fun _ _ _ _ => default) (fun _ k => B_X1_passTo_19 a0 x1 b4 b2 b1 y3 k) n
theorem F_X1_passTo_19_s {a0 : Nat} {x1 : Int32} {b4 : Nat} {b2 : Nat} {b1 : Nat} {y3 : Int32} {n : Nat} {I_19 : hI} {J_19 : hJ} {R : hR} {x4_19 : Int32} : F_X1_passTo_19 a0 x1 b4 b2 b1 y3 (n + 1)  I_19 J_19 R x4_19 = B_X1_passTo_19 a0 x1 b4 b2 b1 y3 (F_X1_passTo_19 a0 x1 b4 b2 b1 y3 n)  I_19 J_19 R x4_19 := rfl
noncomputable def F_X1_passTo (a0 : Nat) (x1 : Int32) (I : hI) (J : hJ) (R : hR) : Int32 × hU :=
  nm ((R a0 5).getD 0) fun b1 => nm ((R b1 (Int32.toNatClampNeg x1)).getD 0) fun b2 => nm (x1 + (1 : Int32)) fun y3 => nm ((R b1 (Int32.toNatClampNeg y3)).getD 0) fun b4 => F_X1_passTo_19 a0 x1 b4 b2 b1 y3 ((4 - (0 : Int32).toInt).toNat + 1) I J R (0 : Int32)
def ms_X1_passTo : List Nat := [394, 395, 3392]
set_option maxHeartbeats 4000000 in
set_option maxRecDepth 100000 in
theorem c_X1_passTo {l : Launch} {D : va_G} {cy : Nat → ClassId} {L : List Nat} {C : Nat → Nat} {b0 : Nat} {I : hI} {J : hJ} {R : hR} {a0 : Nat} {x1 : Int32} (oI : OkI L C I) (oR : OkR L C R) (m0 : a0 ∈ L) (k0 : C a0 = 1) (h1 : Rg x1 (0) (9)) : CI l yX1_passTo cX1_passTo 6 .boolean 3 D cy L C b0 [.ref a0, .int x1] (I, J, R) (fun r v => Ps L C ms_X1_passTo (I, J, R) v ∧ v.2.2 = R ∧ Rg r (0) (1) ∧ F_X1_passTo a0 x1 I J R = (r, v)) := by
  refine CI.mkZ (plainFor_of_name (by decide)) (Nat.le_of_ble_eq_true rfl) ?_
  intro p e s m args below meth c ls Q hF ret hH hl
  obtain ⟨hx, hb, -, hml, hown, hts, -⟩ := hF
  have hl : lv_has ls 6 [(0, .ref a0), (1, .int x1)] := hl
  have hH : Hp D cy L C b0 s s.heap I J R s.heap [] := hH
  have sm : Sm C ms_X1_passTo (I, J, R) (I, J, R) := Sm.rf
  obtain ⟨TT0, hT⟩ : ∃ TT0, TT0 = F_X1_passTo a0 x1 I J R := ⟨_, rfl⟩
  have hv := hT
  unfold F_X1_passTo at hv
  refine lv_aload_n hx hb dX1_passTo_0 rfl (lv_at hl 0 rfl) ?_
  obtain ⟨b1, mb1, vb1, kb1⟩ := rf_1_5 oR m0 k0
  replace hv := fnR hv vb1
  refine gf_1_5 vb1 hx hb hts hown hH m0 k0 rfl kf_X1_17 dX1_passTo_1 ?_
  refine lv_iload_n hx hb dX1_passTo_4 rfl (lv_at hl 1 rfl) ?_
  obtain ⟨b2, mb2, vb2, kb2⟩ := rr_51 oR mb1 kb1 (Rg_in h1 (by decide))
  replace hv := fnR hv vb2
  refine ld_51 hx hb hH mb1 kb1 (Rg_in h1 (by decide)) vb2 dX1_passTo_5 ?_
  refine lv_astore_n (lv' := [(2, .ref b2), (0, .ref a0), (1, .int x1)]) hx hb dX1_passTo_6 rfl hl (by decide) rfl (fun ls hl => ?_)
  refine lv_aload_n hx hb dX1_passTo_7 rfl (lv_at hl 1 rfl) ?_
  refine gf_1_5 vb1 hx hb hts hown hH m0 k0 rfl kf_X1_17 dX1_passTo_8 ?_
  refine lv_iload_n hx hb dX1_passTo_11 rfl (lv_at hl 2 rfl) ?_
  refine lv_iconst (v := 1) hx hb dX1_passTo_12 (by decide) ?_
  refine lv_iadd hx hb dX1_passTo_13 ?_
  refine lv_topi (fun y3 ey3 => ?_)
  replace hv := fnS hv ey3
  obtain ⟨ty3, ry3⟩ := Rg_addx (a' := (1)) (b' := (10)) (rfl : x1.toInt = _) (by decide : Int32.toInt 1 = 1) h1 (Rg_c (x := 1) (a := (1)) (b := (1)) (by decide)) (by decide)
  rw [← ey3] at ty3 ry3
  obtain ⟨b4, mb4, vb4, kb4⟩ := rr_51 oR mb1 kb1 (Rg_in ry3 (by decide))
  replace hv := fnR hv vb4
  refine ld_51 hx hb hH mb1 kb1 (Rg_in ry3 (by decide)) vb4 dX1_passTo_14 ?_
  refine lv_astore_n (lv' := [(3, .ref b4), (2, .ref b2), (0, .ref a0), (1, .int x1)]) hx hb dX1_passTo_15 rfl hl (by decide) rfl (fun ls hl => ?_)
  refine lv_iconst (v := 0) hx hb dX1_passTo_16 (by decide) ?_
  refine lv_istore (lv' := [(4, .int 0), (3, .ref b4), (2, .ref b2), (0, .ref a0), (1, .int x1)]) hx hb dX1_passTo_17 hl (by decide) rfl (fun ls hl => ?_)
  have L_19 : ∀ (n_19 : Nat) (I_19 : hI) (J_19 : hJ) (H : Heap) (locs : List Loc) (ls : Array Slot) (x4_19 : Int32), (4 - x4_19.toInt).toNat < n_19 → Hp D cy L C b0 s s.heap I_19 J_19 R H locs → TT0 = F_X1_passTo_19 a0 x1 b4 b2 b1 y3 n_19 I_19 J_19 R x4_19 → OkI L C I_19 → Sm C ms_X1_passTo (I, J, R) (I_19, J_19, R) → Rg x1 (0) (9) → Rg x4_19 (0) (4) → lv_has ls 6 [(0, .ref a0), (1, .int x1), (2, .ref b2), (3, .ref b4), (4, .int x4_19)] → W p l e (rmD 3) s m args below meth c H locs 0 0 Q (F0 m 19 ls []) := by
    intro n_19
    induction n_19 with
    | zero => intro I_19 J_19 H locs ls x4_19 h; exact absurd h (Nat.not_lt_zero _)
    | succ n_19 ih_19 =>
      intro I_19 J_19 H locs ls x4_19 hn_19 hH hv oI sm r1_19 r4_19 hl
      replace hv := hv.trans F_X1_passTo_19_s
      unfold B_X1_passTo_19 at hv
      refine lv_iload hx hb dX1_passTo_19 (lv_at hl 4 rfl) ?_
      refine lv_aload_n hx hb dX1_passTo_21 rfl (lv_at hl 3 rfl) ?_
      refine gf_5_2 hx hb hts hown hH mb4 kb4 rfl kf_X1_102 dX1_passTo_22 ?_
      refine lv_topi (fun y5 ey5 => ?_)
      have ry5 : Rg y5 (0) (4) := by rw [ey5]; exact rf_5_2 oI mb4 kb4
      replace hv := fnS hv ey5
      refine lv_icmp_ge (tgt := 129) hx hb dX1_passTo_25 (by decide) (fun q6 => ?_) (fun q6 => ?_)
      · replace hv := fnP hv q6
        have l7 := Rg_le q6
        refine lv_iconst (v := 1) hx hb dX1_passTo_129 (by decide) ?_
        exact ret (1) _ _ _ _ _ _ _ dX1_passTo_130 hH (Rg_01 (Rg_w (Rg_c (x := 1) (a := (1)) (b := (1)) (by decide)) (by decide))) ⟨⟨oI, oR, sm⟩, rfl, (Rg_w (Rg_c (x := 1) (a := (1)) (b := (1)) (by decide)) (by decide)), (hT.symm.trans hv)⟩
      replace hv := fnN hv q6
      have l8 := Rg_nle q6
      have r9 : Rg x4_19 (0) (3) := Rg_ult r4_19 (Rg_nle q6) ry5 (by decide)
      have r10 : Rg y5 (1) (4) := Rg_llt ry5 (Rg_nle q6) r4_19 (by decide)
      refine lv_aload_n hx hb dX1_passTo_28 rfl (lv_at hl 0 rfl) ?_
      obtain ⟨b11, mb11, vb11, kb11⟩ := rf_1_6 oR m0 k0
      replace hv := fnR hv vb11
      refine gf_1_6 vb11 hx hb hts hown hH m0 k0 rfl kf_X1_21 dX1_passTo_29 ?_
      refine lv_iload_n hx hb dX1_passTo_32 rfl (lv_at hl 1 rfl) ?_
      refine lv_iconst (v := 4) hx hb dX1_passTo_33 (by decide) ?_
      refine lv_imul hx hb dX1_passTo_34 ?_
      refine lv_topi (fun y12 ey12 => ?_)
      replace hv := fnS hv ey12
      obtain ⟨ty12, ry12⟩ := Rg_mulx (a' := (0)) (b' := (36)) (rfl : x1.toInt = _) (by decide : Int32.toInt 4 = 4) r1_19 (Rg_c (x := 4) (a := (4)) (b := (4)) (by decide)) (by decide)
      rw [← ey12] at ty12 ry12
      refine lv_iload hx hb dX1_passTo_35 (lv_at hl 4 rfl) ?_
      refine lv_iadd hx hb dX1_passTo_37 ?_
      refine lv_topi (fun y13 ey13 => ?_)
      replace hv := fnS hv ey13
      obtain ⟨ty13, ry13⟩ := Rg_addx (a' := (0)) (b' := (39)) (rfl : y12.toInt = _) (rfl : x4_19.toInt = _) ry12 r9 (by decide)
      rw [← ey13] at ty13 ry13
      refine ld_52 hx hb hH mb11 kb11 (Rg_in ry13 (by decide)) dX1_passTo_38 ?_
      refine lv_topi (fun y14 ey14 => ?_)
      have ry14 : Rg y14 (0) (9) := by rw [ey14]; exact rd_52 oI mb11 kb11 (Rg_in ry13 (by decide))
      replace hv := fnS hv ey14
      refine lv_istore (lv' := [(5, .int y14), (0, .ref a0), (1, .int x1), (2, .ref b2), (3, .ref b4), (4, .int x4_19)]) hx hb dX1_passTo_39 hl (by decide) rfl (fun ls hl => ?_)
      refine lv_iload hx hb dX1_passTo_41 (lv_at hl 0 rfl) ?_
      refine lv_bipush (v := 9) hx hb dX1_passTo_43 (by decide) ?_
      refine lv_icmp_ne (tgt := 73) hx hb dX1_passTo_45 (by decide) (fun q15 => ?_) (fun q15 => ?_)
      rotate_left
      · replace hv := fnP hv q15
        have l36 := congrArg Int32.toInt q15
        have r37 : Rg y14 (9) (9) := Rg_both ry14 (Rg_eqv q15 (Rg_c (x := 9) (a := (9)) (b := (9)) (by decide))) (by decide)
        refine lv_aload_n hx hb dX1_passTo_48 rfl (lv_at hl 1 rfl) ?_
        obtain ⟨b38, mb38, vb38, kb38⟩ := rf_1_9 oR m0 k0
        replace hv := fnR hv vb38
        refine gf_1_9 vb38 hx hb hts hown hH m0 k0 rfl kf_X1_32 dX1_passTo_49 ?_
        refine lv_iload hx hb dX1_passTo_52 (lv_at hl 5 rfl) ?_
        refine lv_aload_n hx hb dX1_passTo_54 rfl (lv_at hl 1 rfl) ?_
        obtain ⟨b39, mb39, vb39, kb39⟩ := rf_1_1 oR m0 k0
        replace hv := fnR hv vb39
        refine gf_1_1 vb39 hx hb hts hown hH m0 k0 rfl kf_X1_43 dX1_passTo_55 ?_
        obtain ⟨b40, mb40, vb40, kb40⟩ := rf_2_1 oR mb39 kb39
        replace hv := fnR hv vb40
        refine gf_2_1 vb40 hx hb hts hown hH mb39 kb39 rfl kf_X1_125 dX1_passTo_58 ?_
        refine lv_aload_n hx hb dX1_passTo_61 rfl (lv_at hl 4 rfl) ?_
        obtain ⟨b41, mb41, vb41, kb41⟩ := rf_5_3 oR mb4 kb4
        replace hv := fnR hv vb41
        refine gf_5_3 vb41 hx hb hts hown hH mb4 kb4 rfl kf_X1_105 dX1_passTo_62 ?_
        refine lv_iload hx hb dX1_passTo_65 (lv_at hl 5 rfl) ?_
        refine ld_54 hx hb hH mb41 kb41 (Rg_in r9 (by decide)) dX1_passTo_67 ?_
        refine lv_topi (fun y42 ey42 => ?_)
        have ry42 : Rg y42 (0) (6) := by rw [ey42]; exact rd_54 oI mb41 kb41 (Rg_in r9 (by decide))
        replace hv := fnS hv ey42
        refine ld_42 hx hb hH mb40 kb40 (Rg_in ry42 (by decide)) dX1_passTo_68 ?_
        refine lv_topl (fun w43 ew43 => ?_)
        replace hv := fnS hv ew43
        refine st_53 hx hb hH mb38 kb38 (Rg_in r9 (by decide)) dX1_passTo_69 (fun J44 H locs eJ44 hH => ?_)
        replace hv := fnS hv eJ44
        have sm : Sm C ms_X1_passTo (I, J, R) (I_19, J44, R) := by rw [eJ44]; exact sm.stJ kb38 (mC_arr (by decide) rfl)
        refine lv_goto (tgt := 123) hx hb dX1_passTo_70 (by decide) ?_
        obtain ⟨y45, ey45⟩ : ∃ y : Int32, y = x4_19 + 1 := ⟨_, rfl⟩
        replace hv := fnS hv ey45
        obtain ⟨ty45, ry45⟩ := Rg_addx (a' := (1)) (b' := (4)) (rfl : x4_19.toInt = _) (by decide : Int32.toInt 1 = 1) r9 (Rg_c (x := 1) (a := (1)) (b := (1)) (by decide)) (by decide)
        rw [← ey45] at ty45 ry45
        refine lv_iinc (v := y45) (lv' := [(4, .int y45), (5, .int y14), (0, .ref a0), (1, .int x1), (2, .ref b2), (3, .ref b4)]) hx hb dX1_passTo_123 hl (k := 5) rfl (by rw [ey45]; rfl) (by decide) rfl (fun ls hl => ?_)
        refine lv_goto (tgt := 19) hx hb dX1_passTo_126 (by decide) ?_
        exact ih_19 I_19 J44 _ _ _ y45 (lp_up hn_19 ty45 (Rg_ltc r9 (by decide))) hH hv oI sm r1_19 (Rg_w ry45 (by decide)) (lv_sub hl [2, 3, 4, 5, 0] rfl)
      replace hv := fnN hv q15
      have l16 := Rg_ne q15
      have r17 : Rg y14 (0) (8) := Rg_nehi ry14 (Rg_ne q15) (Rg_c (x := 9) (a := (9)) (b := (9)) (by decide)) (by decide)
      have r18 : Rg y14 (0) (3) := ⟨r17.1, by have a1 : y14.toInt ≤ 3 ∨ y14.toInt = 9 := (by rw [ey14]; exact rx_52 oI mb11 kb11 (Rg_in ry13 (by decide))); have a2 := r17.2; omega⟩
      refine lv_aload_n hx hb dX1_passTo_73 rfl (lv_at hl 1 rfl) ?_
      obtain ⟨b19, mb19, vb19, kb19⟩ := rf_1_0 oR m0 k0
      replace hv := fnR hv vb19
      refine gf_1_0 vb19 hx hb hts hown hH m0 k0 rfl kf_X1_39 dX1_passTo_74 ?_
      refine lv_aload_n hx hb dX1_passTo_77 rfl (lv_at hl 3 rfl) ?_
      obtain ⟨b20, mb20, vb20, kb20⟩ := rf_5_3 oR mb2 kb2
      replace hv := fnR hv vb20
      refine gf_5_3 vb20 hx hb hts hown hH mb2 kb2 rfl kf_X1_105 dX1_passTo_78 ?_
      refine lv_iload hx hb dX1_passTo_81 (lv_at hl 0 rfl) ?_
      refine ld_54 hx hb hH mb20 kb20 (Rg_in r18 (by decide)) dX1_passTo_83 ?_
      refine lv_topi (fun y21 ey21 => ?_)
      have ry21 : Rg y21 (0) (6) := by rw [ey21]; exact rd_54 oI mb20 kb20 (Rg_in r18 (by decide))
      replace hv := fnS hv ey21
      refine lv_aload_n hx hb dX1_passTo_84 rfl (lv_at hl 4 rfl) ?_
      obtain ⟨b22, mb22, vb22, kb22⟩ := rf_5_3 oR mb4 kb4
      replace hv := fnR hv vb22
      refine gf_5_3 vb22 hx hb hts hown hH mb4 kb4 rfl kf_X1_105 dX1_passTo_85 ?_
      refine lv_iload hx hb dX1_passTo_88 (lv_at hl 5 rfl) ?_
      refine ld_54 hx hb hH mb22 kb22 (Rg_in r9 (by decide)) dX1_passTo_90 ?_
      refine lv_topi (fun y23 ey23 => ?_)
      have ry23 : Rg y23 (0) (6) := by rw [ey23]; exact rd_54 oI mb22 kb22 (Rg_in r9 (by decide))
      replace hv := fnS hv ey23
      refine lv_aload_n hx hb dX1_passTo_91 rfl (lv_at hl 1 rfl) ?_
      obtain ⟨b24, mb24, vb24, kb24⟩ := rf_1_8 oR m0 k0
      replace hv := fnR hv vb24
      refine gf_1_8 vb24 hx hb hts hown hH m0 k0 rfl kf_X1_29 dX1_passTo_92 ?_
      refine lv_iload hx hb dX1_passTo_95 (lv_at hl 0 rfl) ?_
      refine ld_53 hx hb hH mb24 kb24 (Rg_in r18 (by decide)) dX1_passTo_97 ?_
      refine lv_topl (fun w25 ew25 => ?_)
      replace hv := fnS hv ew25
      refine ca_X1_130 hx hb hml hown hts hH (c_X6_carry oI oR mb19 kb19 ry21 ry23) hl.1 mb19 kb19 rfl (by decide) (Nat.le_of_ble_eq_true rfl) ⟨Nat.zero_le _, Nat.zero_le _⟩ dX1_passTo_98 (fun y26 I26 J26 R26 H locs hp hH => ?_)
      obtain ⟨⟨oI, -, sc26⟩, eR26, ry26, hf26⟩ := hp
      obtain rfl : R = R26 := eR26.symm
      replace hv := fnC hv hf26
      have sm : Sm C ms_X1_passTo (I, J, R) (I26, J26, R) := sm.tr sc26 rfl
      refine lv_if_eq (tgt := 121) hx hb dX1_passTo_101 (by decide) (fun q27 => ?_) (fun q27 => ?_)
      · replace hv := fnP hv q27
        have l28 := congrArg Int32.toInt q27
        have r29 : Rg y26 (0) (0) := Rg_both ry26 (Rg_eqv q27 (Rg_c (x := 0) (a := (0)) (b := (0)) (by decide))) (by decide)
        refine lv_iconst (v := 0) hx hb dX1_passTo_121 (by decide) ?_
        exact ret (0) _ _ _ _ _ _ _ dX1_passTo_122 hH (Rg_01 (Rg_w (Rg_c (x := 0) (a := (0)) (b := (0)) (by decide)) (by decide))) ⟨⟨oI, oR, sm⟩, rfl, (Rg_w (Rg_c (x := 0) (a := (0)) (b := (0)) (by decide)) (by decide)), (hT.symm.trans hv)⟩
      replace hv := fnN hv q27
      have l30 := Rg_ne q27
      have r31 : Rg y26 (1) (1) := Rg_nelo ry26 (Rg_ne q27) (Rg_c (x := 0) (a := (0)) (b := (0)) (by decide)) (by decide)
      refine lv_aload_n hx hb dX1_passTo_104 rfl (lv_at hl 1 rfl) ?_
      obtain ⟨b32, mb32, vb32, kb32⟩ := rf_1_9 oR m0 k0
      replace hv := fnR hv vb32
      refine gf_1_9 vb32 hx hb hts hown hH m0 k0 rfl kf_X1_32 dX1_passTo_105 ?_
      refine lv_iload hx hb dX1_passTo_108 (lv_at hl 5 rfl) ?_
      refine lv_aload_n hx hb dX1_passTo_110 rfl (lv_at hl 1 rfl) ?_
      refine gf_1_0 vb19 hx hb hts hown hH m0 k0 rfl kf_X1_39 dX1_passTo_111 ?_
      refine gf_6_10 hx hb hts hown hH mb19 kb19 rfl kf_X1_134 dX1_passTo_114 ?_
      refine lv_topl (fun w33 ew33 => ?_)
      replace hv := fnS hv ew33
      refine st_53 hx hb hH mb32 kb32 (Rg_in r9 (by decide)) dX1_passTo_117 (fun J34 H locs eJ34 hH => ?_)
      replace hv := fnS hv eJ34
      have sm : Sm C ms_X1_passTo (I, J, R) (I26, J34, R) := by rw [eJ34]; exact sm.stJ kb32 (mC_arr (by decide) rfl)
      refine lv_goto (tgt := 123) hx hb dX1_passTo_118 (by decide) ?_
      obtain ⟨y35, ey35⟩ : ∃ y : Int32, y = x4_19 + 1 := ⟨_, rfl⟩
      replace hv := fnS hv ey35
      obtain ⟨ty35, ry35⟩ := Rg_addx (a' := (1)) (b' := (4)) (rfl : x4_19.toInt = _) (by decide : Int32.toInt 1 = 1) r9 (Rg_c (x := 1) (a := (1)) (b := (1)) (by decide)) (by decide)
      rw [← ey35] at ty35 ry35
      refine lv_iinc (v := y35) (lv' := [(4, .int y35), (5, .int y14), (0, .ref a0), (1, .int x1), (2, .ref b2), (3, .ref b4)]) hx hb dX1_passTo_123 hl (k := 5) rfl (by rw [ey35]; rfl) (by decide) rfl (fun ls hl => ?_)
      refine lv_goto (tgt := 19) hx hb dX1_passTo_126 (by decide) ?_
      exact ih_19 I26 J34 _ _ _ y35 (lp_up hn_19 ty35 (Rg_ltc r9 (by decide))) hH hv oI sm r1_19 (Rg_w ry35 (by decide)) (lv_sub hl [2, 3, 4, 5, 0] rfl)
  exact L_19 ((4 - (0 : Int32).toInt).toNat + 1) I J _ _ _ 0 (Nat.lt_succ_self _) hH hv oI sm h1 (Rg_w (Rg_c (x := 0) (a := (0)) (b := (0)) (by decide)) (by decide)) (lv_sub hl [3, 4, 2, 1, 0] rfl)
noncomputable def B_X1_passIn_2 (a0 : Nat) (k_2 : hI → hJ → hR → Int32 → (Int32 × hU)) (I_2 : hI) (J_2 : hJ) (R_2 : hR) (x1_2 : Int32) : Int32 × hU :=
  nm (I_2 a0 7) fun y1 => (if y1 ≤ x1_2 then ((1 : Int32), (I_2, J_2, R_2)) else nmU (F_X1_passTo a0 x1_2 I_2 J_2 R_2) fun y5 I5 J5 _ => (if y5 = (0 : Int32) then nm ((R_2 a0 3).getD 0) fun b14 => nm ((R_2 a0 0).getD 0) fun b15 => nm (I5 b15 11) fun y16 => nmW (F_X4_noteFailure b14 (1 : Int32) y16 I5 J5 R_2) fun I17 _ _ => ((0 : Int32), (I17, J5, R_2)) else nm ((R_2 a0 8).getD 0) fun b8 => nm ((R_2 a0 9).getD 0) fun b9 => nm (u2 R_2 a0 8 (some b9)) fun R10 => nm (u2 R10 a0 9 (some b8)) fun R11 => nm (x1_2 + (1 : Int32)) fun y12 => k_2 I5 J5 R11 y12))
noncomputable def F_X1_passIn_2 (a0 : Nat) : Nat → hI → hJ → hR → Int32 → (Int32 × hU) := fun n => Nat.rec (motive := fun _ => hI → hJ → hR → Int32 → (Int32 × hU)) (fun _ _ _ _ => default) (fun _ k => B_X1_passIn_2 a0 k) n
theorem F_X1_passIn_2_s {a0 : Nat} {n : Nat} {I_2 : hI} {J_2 : hJ} {R_2 : hR} {x1_2 : Int32} : F_X1_passIn_2 a0 (n + 1)  I_2 J_2 R_2 x1_2 = B_X1_passIn_2 a0 (F_X1_passIn_2 a0 n)  I_2 J_2 R_2 x1_2 := rfl
noncomputable def F_X1_passIn (a0 : Nat) (I : hI) (J : hJ) (R : hR) : Int32 × hU :=
  F_X1_passIn_2 a0 ((10 - (0 : Int32).toInt).toNat + 1) I J R (0 : Int32)
def ms_X1_passIn : List Nat := [72, 73, 257, 258, 394, 395, 3392]
set_option maxHeartbeats 4000000 in
set_option maxRecDepth 100000 in
theorem c_X1_passIn {l : Launch} {D : va_G} {cy : Nat → ClassId} {L : List Nat} {C : Nat → Nat} {b0 : Nat} {I : hI} {J : hJ} {R : hR} {a0 : Nat} (oI : OkI L C I) (oR : OkR L C R) (m0 : a0 ∈ L) (k0 : C a0 = 1) : CI l yX1_passIn cX1_passIn 3 .boolean 4 D cy L C b0 [.ref a0] (I, J, R) (fun r v => Ps L C ms_X1_passIn (I, J, R) v ∧ Rg r (0) (1) ∧ F_X1_passIn a0 I J R = (r, v)) := by
  refine CI.mkZ (plainFor_of_name (by decide)) (Nat.le_of_ble_eq_true rfl) ?_
  intro p e s m args below meth c ls Q hF ret hH hl
  obtain ⟨hx, hb, -, hml, hown, hts, -⟩ := hF
  have hl : lv_has ls 3 [(0, .ref a0)] := hl
  have hH : Hp D cy L C b0 s s.heap I J R s.heap [] := hH
  have sm : Sm C ms_X1_passIn (I, J, R) (I, J, R) := Sm.rf
  obtain ⟨TT0, hT⟩ : ∃ TT0, TT0 = F_X1_passIn a0 I J R := ⟨_, rfl⟩
  have hv := hT
  unfold F_X1_passIn at hv
  refine lv_iconst (v := 0) hx hb dX1_passIn_0 (by decide) ?_
  refine lv_istore_n (lv' := [(1, .int 0), (0, .ref a0)]) hx hb dX1_passIn_1 rfl hl (by decide) rfl (fun ls hl => ?_)
  have L_2 : ∀ (n_2 : Nat) (I_2 : hI) (J_2 : hJ) (R_2 : hR) (H : Heap) (locs : List Loc) (ls : Array Slot) (x1_2 : Int32), (10 - x1_2.toInt).toNat < n_2 → Hp D cy L C b0 s s.heap I_2 J_2 R_2 H locs → TT0 = F_X1_passIn_2 a0 n_2 I_2 J_2 R_2 x1_2 → OkI L C I_2 → OkR L C R_2 → Sm C ms_X1_passIn (I, J, R) (I_2, J_2, R_2) → Rg x1_2 (0) (10) → lv_has ls 3 [(0, .ref a0), (1, .int x1_2)] → W p l e (rmD 4) s m args below meth c H locs 0 0 Q (F0 m 2 ls []) := by
    intro n_2
    induction n_2 with
    | zero => intro I_2 J_2 R_2 H locs ls x1_2 h; exact absurd h (Nat.not_lt_zero _)
    | succ n_2 ih_2 =>
      intro I_2 J_2 R_2 H locs ls x1_2 hn_2 hH hv oI oR sm r1_2 hl
      replace hv := hv.trans F_X1_passIn_2_s
      unfold B_X1_passIn_2 at hv
      refine lv_iload_n hx hb dX1_passIn_2 rfl (lv_at hl 1 rfl) ?_
      refine lv_aload_n hx hb dX1_passIn_3 rfl (lv_at hl 0 rfl) ?_
      refine gf_1_7 hx hb hts hown hH m0 k0 rfl kf_X1_25 dX1_passIn_4 ?_
      refine lv_topi (fun y1 ey1 => ?_)
      have ry1 : Rg y1 (0) (10) := by rw [ey1]; exact rf_1_7 oI m0 k0
      replace hv := fnS hv ey1
      refine lv_icmp_ge (tgt := 59) hx hb dX1_passIn_7 (by decide) (fun q2 => ?_) (fun q2 => ?_)
      · replace hv := fnP hv q2
        refine lv_iconst (v := 1) hx hb dX1_passIn_59 (by decide) ?_
        exact ret (1) _ _ _ _ _ _ _ dX1_passIn_60 hH (Rg_01 (Rg_w (Rg_c (x := 1) (a := (1)) (b := (1)) (by decide)) (by decide))) ⟨⟨oI, oR, sm⟩, (Rg_w (Rg_c (x := 1) (a := (1)) (b := (1)) (by decide)) (by decide)), (hT.symm.trans hv)⟩
      replace hv := fnN hv q2
      have r3 : Rg x1_2 (0) (9) := Rg_ult r1_2 (Rg_nle q2) ry1 (by decide)
      have r4 : Rg y1 (1) (10) := Rg_llt ry1 (Rg_nle q2) r1_2 (by decide)
      refine lv_aload_n hx hb dX1_passIn_10 rfl (lv_at hl 0 rfl) ?_
      refine lv_iload_n hx hb dX1_passIn_11 rfl (lv_at hl 1 rfl) ?_
      refine ca_X1_116 hx hb hml hown hts hH (c_X1_passTo oI oR m0 k0 r3) hl.1 m0 k0 rfl (by decide) (Nat.le_of_ble_eq_true rfl) ⟨Nat.zero_le _, Nat.zero_le _⟩ dX1_passIn_12 (fun y5 I5 J5 R5 H locs hp hH => ?_)
      obtain ⟨⟨oI, -, sc5⟩, eR5, ry5, hf5⟩ := hp
      obtain rfl : R_2 = R5 := eR5.symm
      replace hv := fnC hv hf5
      have sm : Sm C ms_X1_passIn (I, J, R) (I5, J5, R_2) := sm.tr sc5 rfl
      refine lv_if_ne (tgt := 35) hx hb dX1_passIn_15 (by decide) (fun q6 => ?_) (fun q6 => ?_)
      rotate_left
      · replace hv := fnP hv q6
        have r13 : Rg y5 (0) (0) := Rg_both ry5 (Rg_eqv q6 (Rg_c (x := 0) (a := (0)) (b := (0)) (by decide))) (by decide)
        refine lv_aload_n hx hb dX1_passIn_18 rfl (lv_at hl 0 rfl) ?_
        obtain ⟨b14, mb14, vb14, kb14⟩ := rf_1_3 oR m0 k0
        replace hv := fnR hv vb14
        refine gf_1_3 vb14 hx hb hts hown hH m0 k0 rfl kf_X1_51 dX1_passIn_19 ?_
        refine lv_iconst (v := 1) hx hb dX1_passIn_22 (by decide) ?_
        refine lv_aload_n hx hb dX1_passIn_23 rfl (lv_at hl 0 rfl) ?_
        obtain ⟨b15, mb15, vb15, kb15⟩ := rf_1_0 oR m0 k0
        replace hv := fnR hv vb15
        refine gf_1_0 vb15 hx hb hts hown hH m0 k0 rfl kf_X1_39 dX1_passIn_24 ?_
        refine gf_6_11 hx hb hts hown hH mb15 kb15 rfl kf_X1_120 dX1_passIn_27 ?_
        refine lv_topi (fun y16 ey16 => ?_)
        replace hv := fnS hv ey16
        refine ca_X1_112 hx hb hml hown hts hH (c_X4_noteFailure oI oR mb14 kb14) hl.1 mb14 kb14 rfl (by decide) (Nat.le_of_ble_eq_true rfl) ⟨Nat.zero_le _, Nat.zero_le _⟩ dX1_passIn_30 (fun I17 J17 R17 H locs hp hH => ?_)
        obtain ⟨⟨oI, -, sc17⟩, eJ17, eR17, hf17⟩ := hp
        obtain rfl : J5 = J17 := eJ17.symm
        obtain rfl : R_2 = R17 := eR17.symm
        replace hv := fnW hv hf17
        have sm : Sm C ms_X1_passIn (I, J, R) (I17, J5, R_2) := sm.tr sc17 rfl
        refine lv_iconst (v := 0) hx hb dX1_passIn_33 (by decide) ?_
        exact ret (0) _ _ _ _ _ _ _ dX1_passIn_34 hH (Rg_01 (Rg_w (Rg_c (x := 0) (a := (0)) (b := (0)) (by decide)) (by decide))) ⟨⟨oI, oR, sm⟩, (Rg_w (Rg_c (x := 0) (a := (0)) (b := (0)) (by decide)) (by decide)), (hT.symm.trans hv)⟩
      replace hv := fnN hv q6
      have r7 : Rg y5 (1) (1) := Rg_nelo ry5 (Rg_ne q6) (Rg_c (x := 0) (a := (0)) (b := (0)) (by decide)) (by decide)
      refine lv_aload_n hx hb dX1_passIn_35 rfl (lv_at hl 0 rfl) ?_
      obtain ⟨b8, mb8, vb8, kb8⟩ := rf_1_8 oR m0 k0
      replace hv := fnR hv vb8
      refine gf_1_8 vb8 hx hb hts hown hH m0 k0 rfl kf_X1_29 dX1_passIn_36 ?_
      refine lv_astore_n (lv' := [(2, .ref b8), (0, .ref a0), (1, .int x1_2)]) hx hb dX1_passIn_39 rfl hl (by decide) rfl (fun ls hl => ?_)
      refine lv_aload_n hx hb dX1_passIn_40 rfl (lv_at hl 1 rfl) ?_
      refine lv_aload_n hx hb dX1_passIn_41 rfl (lv_at hl 1 rfl) ?_
      obtain ⟨b9, mb9, vb9, kb9⟩ := rf_1_9 oR m0 k0
      replace hv := fnR hv vb9
      refine gf_1_9 vb9 hx hb hts hown hH m0 k0 rfl kf_X1_32 dX1_passIn_42 ?_
      refine pf_1_8 hx hb hts hown hH m0 k0 rfl kf_X1_29 dX1_passIn_45 (fun R10 H locs eR10 hH => ?_)
      replace hv := fnS hv eR10
      have oR : OkR L C R10 := by rw [eR10]; exact wf_1_8 oR k0 mb9 kb9
      have sm : Sm C ms_X1_passIn (I, J, R) (I5, J5, R10) := by rw [eR10]; exact sm.stR k0 (mC_obj (by decide) rfl)
      refine lv_aload_n hx hb dX1_passIn_48 rfl (lv_at hl 1 rfl) ?_
      refine lv_aload_n hx hb dX1_passIn_49 rfl (lv_at hl 0 rfl) ?_
      refine pf_1_9 hx hb hts hown hH m0 k0 rfl kf_X1_32 dX1_passIn_50 (fun R11 H locs eR11 hH => ?_)
      replace hv := fnS hv eR11
      have oR : OkR L C R11 := by rw [eR11]; exact wf_1_9 oR k0 mb8 kb8
      have sm : Sm C ms_X1_passIn (I, J, R) (I5, J5, R11) := by rw [eR11]; exact sm.stR k0 (mC_obj (by decide) rfl)
      obtain ⟨y12, ey12⟩ : ∃ y : Int32, y = x1_2 + 1 := ⟨_, rfl⟩
      replace hv := fnS hv ey12
      obtain ⟨ty12, ry12⟩ := Rg_addx (a' := (1)) (b' := (10)) (rfl : x1_2.toInt = _) (by decide : Int32.toInt 1 = 1) r3 (Rg_c (x := 1) (a := (1)) (b := (1)) (by decide)) (by decide)
      rw [← ey12] at ty12 ry12
      refine lv_iinc (v := y12) (lv' := [(1, .int y12), (2, .ref b8), (0, .ref a0)]) hx hb dX1_passIn_53 hl (k := 2) rfl (by rw [ey12]; rfl) (by decide) rfl (fun ls hl => ?_)
      refine lv_goto (tgt := 2) hx hb dX1_passIn_56 (by decide) ?_
      exact ih_2 I5 J5 R11 _ _ _ y12 (lp_up hn_2 ty12 (Rg_ltc r3 (by decide))) hH hv oI oR sm (Rg_w ry12 (by decide)) (lv_sub hl [2, 0] rfl)
  exact L_2 ((10 - (0 : Int32).toInt).toNat + 1) I J R _ _ _ 0 (Nat.lt_succ_self _) hH hv oI oR sm (Rg_w (Rg_c (x := 0) (a := (0)) (b := (0)) (by decide)) (by decide)) (lv_sub hl [1, 0] rfl)
noncomputable def F_X1_giveIfOf (a0 : Nat) (a1 : Nat) (x2 : Int64) (I : hI) (J : hJ) (R : hR) : Int32 × hU :=
  nm (u2 J a0 10 x2) fun J1 => nm (I a1 1) fun y2 => nm (F_X10_isOf y2 x2) fun y3 => (y3, (I, J1, R))
def ms_X1_giveIfOf : List Nat := [74]
set_option maxHeartbeats 4000000 in
set_option maxRecDepth 100000 in
theorem c_X1_giveIfOf {l : Launch} {D : va_G} {cy : Nat → ClassId} {L : List Nat} {C : Nat → Nat} {b0 : Nat} {I : hI} {J : hJ} {R : hR} {a0 : Nat} {a1 : Nat} {x2 : Int64} (oI : OkI L C I) (oR : OkR L C R) (m0 : a0 ∈ L) (k0 : C a0 = 1) (m1 : a1 ∈ L) (k1 : C a1 = 5) : CI l yX1_giveIfOf cX1_giveIfOf 4 .boolean 1 D cy L C b0 [.ref a0, .ref a1, .long x2] (I, J, R) (fun r v => Ps L C ms_X1_giveIfOf (I, J, R) v ∧ v.1 = I ∧ v.2.2 = R ∧ Rg r (0) (1) ∧ F_X1_giveIfOf a0 a1 x2 I J R = (r, v)) := by
  refine CI.mkZ (plainFor_of_name (by decide)) (Nat.le_of_ble_eq_true rfl) ?_
  intro p e s m args below meth c ls Q hF ret hH hl
  obtain ⟨hx, hb, -, hml, hown, hts, -⟩ := hF
  have hl : lv_has ls 4 [(0, .ref a0), (1, .ref a1), (2, .long x2)] := hl
  have hH : Hp D cy L C b0 s s.heap I J R s.heap [] := hH
  have sm : Sm C ms_X1_giveIfOf (I, J, R) (I, J, R) := Sm.rf
  obtain ⟨TT0, hT⟩ : ∃ TT0, TT0 = F_X1_giveIfOf a0 a1 x2 I J R := ⟨_, rfl⟩
  have hv := hT
  unfold F_X1_giveIfOf at hv
  refine lv_aload_n hx hb dX1_giveIfOf_0 rfl (lv_at hl 0 rfl) ?_
  refine lv_lload_n hx hb dX1_giveIfOf_1 rfl (lv_at hl 2 rfl) ?_
  refine pf_1_10 hx hb hts hown hH m0 k0 rfl kf_X1_35 dX1_giveIfOf_2 (fun J1 H locs eJ1 hH => ?_)
  replace hv := fnS hv eJ1
  have sm : Sm C ms_X1_giveIfOf (I, J, R) (I, J1, R) := by rw [eJ1]; exact sm.stJ k0 (mC_obj (by decide) rfl)
  refine lv_aload_n hx hb dX1_giveIfOf_5 rfl (lv_at hl 1 rfl) ?_
  refine gf_5_1 hx hb hts hown hH m1 k1 rfl kf_X1_156 dX1_giveIfOf_6 ?_
  refine lv_topi (fun y2 ey2 => ?_)
  have ry2 : Rg y2 (0) (6) := by rw [ey2]; exact rf_5_1 oI m1 k1
  replace hv := fnS hv ey2
  refine lv_lload_n hx hb dX1_giveIfOf_9 rfl (lv_at hl 2 rfl) ?_
  refine ca_X1_108 hx hb hml hown hts hH (c_X10_isOf ry2) hl.1 (by decide) (Nat.le_of_ble_eq_true rfl) ⟨Nat.zero_le _, Nat.zero_le _⟩ dX1_giveIfOf_10 (fun y3 I3 J3 R3 H locs hp hH => ?_)
  obtain ⟨eI3, eJ3, eR3, ry3, hp3, hf3⟩ := hp
  obtain rfl : I = I3 := eI3.symm
  obtain rfl : J1 = J3 := eJ3.symm
  obtain rfl : R = R3 := eR3.symm
  replace hv := fnS hv hf3.symm
  exact ret (y3) _ _ _ _ _ _ _ dX1_giveIfOf_13 hH (Rg_01 (Rg_w ry3 (by decide))) ⟨⟨oI, oR, sm⟩, rfl, rfl, ry3, (hT.symm.trans hv)⟩
noncomputable def F_X1_addTo (a0 : Nat) (x1 : Int64) (I : hI) (J : hJ) (R : hR) : Int32 × hU :=
  nm (J a0 10) fun w1 => nm (F_X10_sumStaysIn64 w1 x1) fun y2 => nm (J a0 10) fun w3 => nm (w3 + x1) fun w4 => nm (u2 J a0 10 w4) fun J5 => (y2, (I, J5, R))
def ms_X1_addTo : List Nat := [74]
set_option maxHeartbeats 4000000 in
set_option maxRecDepth 100000 in
theorem c_X1_addTo {l : Launch} {D : va_G} {cy : Nat → ClassId} {L : List Nat} {C : Nat → Nat} {b0 : Nat} {I : hI} {J : hJ} {R : hR} {a0 : Nat} {x1 : Int64} (oI : OkI L C I) (oR : OkR L C R) (m0 : a0 ∈ L) (k0 : C a0 = 1) : CI l yX1_addTo cX1_addTo 4 .boolean 1 D cy L C b0 [.ref a0, .long x1] (I, J, R) (fun r v => Ps L C ms_X1_addTo (I, J, R) v ∧ v.1 = I ∧ v.2.2 = R ∧ Rg r (0) (1) ∧ F_X1_addTo a0 x1 I J R = (r, v)) := by
  refine CI.mkZ (plainFor_of_name (by decide)) (Nat.le_of_ble_eq_true rfl) ?_
  intro p e s m args below meth c ls Q hF ret hH hl
  obtain ⟨hx, hb, -, hml, hown, hts, -⟩ := hF
  have hl : lv_has ls 4 [(0, .ref a0), (1, .long x1)] := hl
  have hH : Hp D cy L C b0 s s.heap I J R s.heap [] := hH
  have sm : Sm C ms_X1_addTo (I, J, R) (I, J, R) := Sm.rf
  obtain ⟨TT0, hT⟩ : ∃ TT0, TT0 = F_X1_addTo a0 x1 I J R := ⟨_, rfl⟩
  have hv := hT
  unfold F_X1_addTo at hv
  refine lv_aload_n hx hb dX1_addTo_0 rfl (lv_at hl 0 rfl) ?_
  refine gf_1_10 hx hb hts hown hH m0 k0 rfl kf_X1_35 dX1_addTo_1 ?_
  refine lv_topl (fun w1 ew1 => ?_)
  replace hv := fnS hv ew1
  refine lv_lload_n hx hb dX1_addTo_4 rfl (lv_at hl 1 rfl) ?_
  refine ca_X1_172 hx hb hml hown hts hH (c_X10_sumStaysIn64 ) hl.1 (by decide) (Nat.le_of_ble_eq_true rfl) ⟨Nat.zero_le _, Nat.zero_le _⟩ dX1_addTo_5 (fun y2 I2 J2 R2 H locs hp hH => ?_)
  obtain ⟨eI2, eJ2, eR2, ry2, hf2⟩ := hp
  obtain rfl : I = I2 := eI2.symm
  obtain rfl : J = J2 := eJ2.symm
  obtain rfl : R = R2 := eR2.symm
  replace hv := fnS hv hf2.symm
  refine lv_istore_n (lv' := [(3, .int y2), (0, .ref a0), (1, .long x1)]) hx hb dX1_addTo_8 rfl hl (by decide) rfl (fun ls hl => ?_)
  refine lv_aload_n hx hb dX1_addTo_9 rfl (lv_at hl 1 rfl) ?_
  refine lv_dup hx hb dX1_addTo_10 rfl ?_
  refine gf_1_10 hx hb hts hown hH m0 k0 rfl kf_X1_35 dX1_addTo_11 ?_
  refine lv_topl (fun w3 ew3 => ?_)
  replace hv := fnS hv ew3
  refine lv_lload_n hx hb dX1_addTo_14 rfl (lv_at hl 2 rfl) ?_
  refine lv_ladd hx hb dX1_addTo_15 ?_
  refine lv_topl (fun w4 ew4 => ?_)
  replace hv := fnS hv ew4
  refine pf_1_10 hx hb hts hown hH m0 k0 rfl kf_X1_35 dX1_addTo_16 (fun J5 H locs eJ5 hH => ?_)
  replace hv := fnS hv eJ5
  have sm : Sm C ms_X1_addTo (I, J, R) (I, J5, R) := by rw [eJ5]; exact sm.stJ k0 (mC_obj (by decide) rfl)
  refine lv_iload_n hx hb dX1_addTo_19 rfl (lv_at hl 0 rfl) ?_
  exact ret (y2) _ _ _ _ _ _ _ dX1_addTo_20 hH (Rg_01 (Rg_w ry2 (by decide))) ⟨⟨oI, oR, sm⟩, rfl, rfl, ry2, (hT.symm.trans hv)⟩
noncomputable def F_X1_addUp_59 (a0 : Nat) (a1 : Nat) (y1 : Int32) (x2_11 : Int32) (k_11 : hI → hJ → hR → Int32 → (Int32 × hU)) (I : hI) (J_59 : hJ) (R : hR) : Int32 × hU :=
  ((0 : Int32), (I, J_59, R))
noncomputable def B_X1_addUp_11 (a0 : Nat) (a1 : Nat) (y1 : Int32) (k_11 : hI → hJ → hR → Int32 → (Int32 × hU)) (I : hI) (J_11 : hJ) (R : hR) (x2_11 : Int32) : Int32 × hU :=
  nm (I a1 2) fun y3 => (if y3 ≤ x2_11 then ((1 : Int32), (I, J_11, R)) else nm ((R a0 8).getD 0) fun b7 => nm (J_11 b7 (Int32.toNatClampNeg x2_11)) fun w8 => nm ((R a1 7).getD 0) fun b9 => nm (I b9 (Int32.toNatClampNeg x2_11)) fun y10 => nm (F_X10_staysIn64 w8 y10 (0 : Int32)) fun y11 => (if y11 = (0 : Int32) then F_X1_addUp_59 a0 a1 y1 x2_11 k_11 I J_11 R else nm (J_11 b7 (Int32.toNatClampNeg x2_11)) fun w15 => nm (w15 * (y10.toInt64)) fun w17 => nmU (F_X1_addTo a0 w17 I J_11 R) fun y18 _ J18 _ => (if y18 = (0 : Int32) then F_X1_addUp_59 a0 a1 y1 x2_11 k_11 I J18 R else nm (x2_11 + (1 : Int32)) fun y21 => k_11 I J18 R y21)))
noncomputable def F_X1_addUp_11 (a0 : Nat) (a1 : Nat) (y1 : Int32) : Nat → hI → hJ → hR → Int32 → (Int32 × hU) := fun n => Nat.rec (motive := fun _ => hI → hJ → hR → Int32 → (Int32 × hU)) (fun _ _ _ _ => default) (fun _ k => B_X1_addUp_11 a0 a1 y1 k) n
theorem F_X1_addUp_11_s {a0 : Nat} {a1 : Nat} {y1 : Int32} {n : Nat} {I : hI} {J_11 : hJ} {R : hR} {x2_11 : Int32} : F_X1_addUp_11 a0 a1 y1 (n + 1)  I J_11 R x2_11 = B_X1_addUp_11 a0 a1 y1 (F_X1_addUp_11 a0 a1 y1 n)  I J_11 R x2_11 := rfl
noncomputable def F_X1_addUp (a0 : Nat) (a1 : Nat) (I : hI) (J : hJ) (R : hR) : Int32 × hU :=
  nm (I a1 6) fun y1 => nm (u2 J a0 10 (y1.toInt64)) fun J2 => F_X1_addUp_11 a0 a1 y1 ((4 - (0 : Int32).toInt).toNat + 1) I J2 R (0 : Int32)
def ms_X1_addUp : List Nat := [74]
set_option maxHeartbeats 4000000 in
set_option maxRecDepth 100000 in
theorem c_X1_addUp {l : Launch} {D : va_G} {cy : Nat → ClassId} {L : List Nat} {C : Nat → Nat} {b0 : Nat} {I : hI} {J : hJ} {R : hR} {a0 : Nat} {a1 : Nat} (oI : OkI L C I) (oR : OkR L C R) (m0 : a0 ∈ L) (k0 : C a0 = 1) (m1 : a1 ∈ L) (k1 : C a1 = 5) : CI l yX1_addUp cX1_addUp 3 .boolean 2 D cy L C b0 [.ref a0, .ref a1] (I, J, R) (fun r v => Ps L C ms_X1_addUp (I, J, R) v ∧ v.1 = I ∧ v.2.2 = R ∧ Rg r (0) (1) ∧ F_X1_addUp a0 a1 I J R = (r, v)) := by
  refine CI.mkZ (plainFor_of_name (by decide)) (Nat.le_of_ble_eq_true rfl) ?_
  intro p e s m args below meth c ls Q hF ret hH hl
  obtain ⟨hx, hb, -, hml, hown, hts, -⟩ := hF
  have hl : lv_has ls 3 [(0, .ref a0), (1, .ref a1)] := hl
  have hH : Hp D cy L C b0 s s.heap I J R s.heap [] := hH
  have sm : Sm C ms_X1_addUp (I, J, R) (I, J, R) := Sm.rf
  obtain ⟨TT0, hT⟩ : ∃ TT0, TT0 = F_X1_addUp a0 a1 I J R := ⟨_, rfl⟩
  have hv := hT
  unfold F_X1_addUp at hv
  refine lv_aload_n hx hb dX1_addUp_0 rfl (lv_at hl 0 rfl) ?_
  refine lv_aload_n hx hb dX1_addUp_1 rfl (lv_at hl 1 rfl) ?_
  refine gf_5_6 hx hb hts hown hH m1 k1 rfl kf_X1_158 dX1_addUp_2 ?_
  refine lv_topi (fun y1 ey1 => ?_)
  replace hv := fnS hv ey1
  refine lv_i2l (v := y1.toInt64) hx hb dX1_addUp_5 rfl ?_
  refine pf_1_10 hx hb hts hown hH m0 k0 rfl kf_X1_35 dX1_addUp_6 (fun J2 H locs eJ2 hH => ?_)
  replace hv := fnS hv eJ2
  have sm : Sm C ms_X1_addUp (I, J, R) (I, J2, R) := by rw [eJ2]; exact sm.stJ k0 (mC_obj (by decide) rfl)
  refine lv_iconst (v := 0) hx hb dX1_addUp_9 (by decide) ?_
  refine lv_istore_n (lv' := [(2, .int 0), (0, .ref a0), (1, .ref a1)]) hx hb dX1_addUp_10 rfl hl (by decide) rfl (fun ls hl => ?_)
  have L_11 : ∀ (n_11 : Nat) (J_11 : hJ) (H : Heap) (locs : List Loc) (ls : Array Slot) (x2_11 : Int32), (4 - x2_11.toInt).toNat < n_11 → Hp D cy L C b0 s s.heap I J_11 R H locs → TT0 = F_X1_addUp_11 a0 a1 y1 n_11 I J_11 R x2_11 → Sm C ms_X1_addUp (I, J, R) (I, J_11, R) → Rg x2_11 (0) (4) → lv_has ls 3 [(0, .ref a0), (1, .ref a1), (2, .int x2_11)] → W p l e (rmD 2) s m args below meth c H locs 0 0 Q (F0 m 11 ls []) := by
    intro n_11
    induction n_11 with
    | zero => intro J_11 H locs ls x2_11 h; exact absurd h (Nat.not_lt_zero _)
    | succ n_11 ih_11 =>
      intro J_11 H locs ls x2_11 hn_11 hH hv sm r2_11 hl
      replace hv := hv.trans F_X1_addUp_11_s
      unfold B_X1_addUp_11 at hv
      have L_59 : ∀ (J_59 : hJ) (H : Heap) (locs : List Loc) (ls : Array Slot), Hp D cy L C b0 s s.heap I J_59 R H locs → TT0 = F_X1_addUp_59 a0 a1 y1 x2_11 (F_X1_addUp_11 a0 a1 y1 n_11) I J_59 R → Sm C ms_X1_addUp (I, J, R) (I, J_59, R) → lv_has ls 3 [] → W p l e (rmD 2) s m args below meth c H locs 0 0 Q (F0 m 59 ls []) := by
        intro J_59 H locs ls hH hv sm hl
        unfold F_X1_addUp_59 at hv
        refine lv_iconst (v := 0) hx hb dX1_addUp_59 (by decide) ?_
        exact ret (0) _ _ _ _ _ _ _ dX1_addUp_60 hH (Rg_01 (Rg_w (Rg_c (x := 0) (a := (0)) (b := (0)) (by decide)) (by decide))) ⟨⟨oI, oR, sm⟩, rfl, rfl, (Rg_w (Rg_c (x := 0) (a := (0)) (b := (0)) (by decide)) (by decide)), (hT.symm.trans hv)⟩
      refine lv_iload_n hx hb dX1_addUp_11 rfl (lv_at hl 2 rfl) ?_
      refine lv_aload_n hx hb dX1_addUp_12 rfl (lv_at hl 1 rfl) ?_
      refine gf_5_2 hx hb hts hown hH m1 k1 rfl kf_X1_102 dX1_addUp_13 ?_
      refine lv_topi (fun y3 ey3 => ?_)
      have ry3 : Rg y3 (0) (4) := by rw [ey3]; exact rf_5_2 oI m1 k1
      replace hv := fnS hv ey3
      refine lv_icmp_ge (tgt := 67) hx hb dX1_addUp_16 (by decide) (fun q4 => ?_) (fun q4 => ?_)
      · replace hv := fnP hv q4
        refine lv_iconst (v := 1) hx hb dX1_addUp_67 (by decide) ?_
        exact ret (1) _ _ _ _ _ _ _ dX1_addUp_68 hH (Rg_01 (Rg_w (Rg_c (x := 1) (a := (1)) (b := (1)) (by decide)) (by decide))) ⟨⟨oI, oR, sm⟩, rfl, rfl, (Rg_w (Rg_c (x := 1) (a := (1)) (b := (1)) (by decide)) (by decide)), (hT.symm.trans hv)⟩
      replace hv := fnN hv q4
      have r5 : Rg x2_11 (0) (3) := Rg_ult r2_11 (Rg_nle q4) ry3 (by decide)
      have r6 : Rg y3 (1) (4) := Rg_llt ry3 (Rg_nle q4) r2_11 (by decide)
      refine lv_aload_n hx hb dX1_addUp_19 rfl (lv_at hl 0 rfl) ?_
      obtain ⟨b7, mb7, vb7, kb7⟩ := rf_1_8 oR m0 k0
      replace hv := fnR hv vb7
      refine gf_1_8 vb7 hx hb hts hown hH m0 k0 rfl kf_X1_29 dX1_addUp_20 ?_
      refine lv_iload_n hx hb dX1_addUp_23 rfl (lv_at hl 2 rfl) ?_
      refine ld_53 hx hb hH mb7 kb7 (Rg_in r5 (by decide)) dX1_addUp_24 ?_
      refine lv_topl (fun w8 ew8 => ?_)
      replace hv := fnS hv ew8
      refine lv_aload_n hx hb dX1_addUp_25 rfl (lv_at hl 1 rfl) ?_
      obtain ⟨b9, mb9, vb9, kb9⟩ := rf_5_7 oR m1 k1
      replace hv := fnR hv vb9
      refine gf_5_7 vb9 hx hb hts hown hH m1 k1 rfl kf_X1_161 dX1_addUp_26 ?_
      refine lv_iload_n hx hb dX1_addUp_29 rfl (lv_at hl 2 rfl) ?_
      refine ld_55 hx hb hH mb9 kb9 (Rg_in r5 (by decide)) dX1_addUp_30 ?_
      refine lv_topi (fun y10 ey10 => ?_)
      have ry10 : Rg y10 (-1000) (1000) := by rw [ey10]; exact rd_55 oI mb9 kb9 (Rg_in r5 (by decide))
      replace hv := fnS hv ey10
      refine lv_iconst (v := 0) hx hb dX1_addUp_31 (by decide) ?_
      refine ca_X1_164 hx hb hml hown hts hH (c_X10_staysIn64 ) hl.1 (by decide) (Nat.le_of_ble_eq_true rfl) ⟨Nat.zero_le _, Nat.zero_le _⟩ dX1_addUp_32 (fun y11 I11 J11 R11 H locs hp hH => ?_)
      obtain ⟨eI11, eJ11, eR11, ry11, hf11⟩ := hp
      obtain rfl : I = I11 := eI11.symm
      obtain rfl : J_11 = J11 := eJ11.symm
      obtain rfl : R = R11 := eR11.symm
      replace hv := fnS hv hf11.symm
      refine lv_if_eq (tgt := 59) hx hb dX1_addUp_35 (by decide) (fun q12 => ?_) (fun q12 => ?_)
      · replace hv := fnP hv q12
        have r13 : Rg y11 (0) (0) := Rg_both ry11 (Rg_eqv q12 (Rg_c (x := 0) (a := (0)) (b := (0)) (by decide))) (by decide)
        exact L_59 J_11 _ _ _ hH hv sm (lv_sub hl [] rfl)
      replace hv := fnN hv q12
      have r14 : Rg y11 (1) (1) := Rg_nelo ry11 (Rg_ne q12) (Rg_c (x := 0) (a := (0)) (b := (0)) (by decide)) (by decide)
      refine lv_aload_n hx hb dX1_addUp_38 rfl (lv_at hl 0 rfl) ?_
      refine lv_aload_n hx hb dX1_addUp_39 rfl (lv_at hl 0 rfl) ?_
      refine gf_1_8 vb7 hx hb hts hown hH m0 k0 rfl kf_X1_29 dX1_addUp_40 ?_
      refine lv_iload_n hx hb dX1_addUp_43 rfl (lv_at hl 2 rfl) ?_
      refine ld_53 hx hb hH mb7 kb7 (Rg_in r5 (by decide)) dX1_addUp_44 ?_
      refine lv_topl (fun w15 ew15 => ?_)
      replace hv := fnS hv ew15
      refine lv_aload_n hx hb dX1_addUp_45 rfl (lv_at hl 1 rfl) ?_
      refine gf_5_7 vb9 hx hb hts hown hH m1 k1 rfl kf_X1_161 dX1_addUp_46 ?_
      refine lv_iload_n hx hb dX1_addUp_49 rfl (lv_at hl 2 rfl) ?_
      refine ld_55 hx hb hH mb9 kb9 (Rg_in r5 (by decide)) dX1_addUp_50 ?_
      refine lv_topi (fun y16 ey16 => ?_)
      obtain rfl : y10 = y16 := ey10.trans ey16.symm
      refine lv_i2l (v := y10.toInt64) hx hb dX1_addUp_51 rfl ?_
      refine lv_lmul hx hb dX1_addUp_52 ?_
      refine lv_topl (fun w17 ew17 => ?_)
      replace hv := fnS hv ew17
      refine ca_X1_168 hx hb hml hown hts hH (c_X1_addTo oI oR m0 k0) hl.1 m0 k0 rfl (by decide) (Nat.le_of_ble_eq_true rfl) ⟨Nat.zero_le _, Nat.zero_le _⟩ dX1_addUp_53 (fun y18 I18 J18 R18 H locs hp hH => ?_)
      obtain ⟨⟨-, -, sc18⟩, eI18, eR18, ry18, hf18⟩ := hp
      obtain rfl : I = I18 := eI18.symm
      obtain rfl : R = R18 := eR18.symm
      replace hv := fnC hv hf18
      have sm : Sm C ms_X1_addUp (I, J, R) (I, J18, R) := sm.tr sc18 rfl
      refine lv_if_ne (tgt := 61) hx hb dX1_addUp_56 (by decide) (fun q19 => ?_) (fun q19 => ?_)
      rotate_left
      · replace hv := fnP hv q19
        have r22 : Rg y18 (0) (0) := Rg_both ry18 (Rg_eqv q19 (Rg_c (x := 0) (a := (0)) (b := (0)) (by decide))) (by decide)
        exact L_59 J18 _ _ _ hH hv sm (lv_sub hl [] rfl)
      replace hv := fnN hv q19
      have r20 : Rg y18 (1) (1) := Rg_nelo ry18 (Rg_ne q19) (Rg_c (x := 0) (a := (0)) (b := (0)) (by decide)) (by decide)
      obtain ⟨y21, ey21⟩ : ∃ y : Int32, y = x2_11 + 1 := ⟨_, rfl⟩
      replace hv := fnS hv ey21
      obtain ⟨ty21, ry21⟩ := Rg_addx (a' := (1)) (b' := (4)) (rfl : x2_11.toInt = _) (by decide : Int32.toInt 1 = 1) r5 (Rg_c (x := 1) (a := (1)) (b := (1)) (by decide)) (by decide)
      rw [← ey21] at ty21 ry21
      refine lv_iinc (v := y21) (lv' := [(2, .int y21), (0, .ref a0), (1, .ref a1)]) hx hb dX1_addUp_61 hl (k := 2) rfl (by rw [ey21]; rfl) (by decide) rfl (fun ls hl => ?_)
      refine lv_goto (tgt := 11) hx hb dX1_addUp_64 (by decide) ?_
      exact ih_11 J18 _ _ _ y21 (lp_up hn_11 ty21 (Rg_ltc r5 (by decide))) hH hv sm (Rg_w ry21 (by decide)) (lv_sub hl [1, 2, 0] rfl)
  exact L_11 ((4 - (0 : Int32).toInt).toNat + 1) J2 _ _ _ 0 (Nat.lt_succ_self _) hH hv sm (Rg_w (Rg_c (x := 0) (a := (0)) (b := (0)) (by decide)) (by decide)) (lv_sub hl [1, 2, 0] rfl)
noncomputable def F_X1_addField_28 (a0 : Nat) (a1 : Nat) (a2 : Nat) (x3 : Int32) (y1 : Int32) (I : hI) (J_28 : hJ) (R : hR) (xs0_28 : Int32) : Int32 × hU :=
  (xs0_28, (I, J_28, R))
noncomputable def F_X1_addField_23 (a0 : Nat) (a1 : Nat) (a2 : Nat) (x3 : Int32) (y1 : Int32) (I : hI) (J_23 : hJ) (R : hR) : Int32 × hU :=
  F_X1_addField_28 a0 a1 a2 x3 y1 I J_23 R (1 : Int32)
noncomputable def F_X1_addField (a0 : Nat) (a1 : Nat) (a2 : Nat) (x3 : Int32) (I : hI) (J : hJ) (R : hR) : Int32 × hU :=
  nm (I a1 5) fun y1 => (if y1 = (-1 : Int32) then F_X1_addField_23 a0 a1 a2 x3 y1 I J R else nm (x3 + y1) fun y6 => nm (J a2 (Int32.toNatClampNeg y6)) fun w7 => nmU (F_X1_addTo a0 w7 I J R) fun y8 _ J8 _ => (if y8 = (0 : Int32) then F_X1_addField_28 a0 a1 a2 x3 y1 I J8 R (0 : Int32) else F_X1_addField_23 a0 a1 a2 x3 y1 I J8 R))
def ms_X1_addField : List Nat := [74]
set_option maxHeartbeats 4000000 in
set_option maxRecDepth 100000 in
theorem c_X1_addField {l : Launch} {D : va_G} {cy : Nat → ClassId} {L : List Nat} {C : Nat → Nat} {b0 : Nat} {I : hI} {J : hJ} {R : hR} {a0 : Nat} {a1 : Nat} {a2 : Nat} {x3 : Int32} (oI : OkI L C I) (oR : OkR L C R) (m0 : a0 ∈ L) (k0 : C a0 = 1) (m1 : a1 ∈ L) (k1 : C a1 = 5) (m2 : a2 ∈ L) (k2 : C a2 = 49) (h3 : Rg x3 (0) (57)) : CI l yX1_addField cX1_addField 4 .boolean 2 D cy L C b0 [.ref a0, .ref a1, .ref a2, .int x3] (I, J, R) (fun r v => Ps L C ms_X1_addField (I, J, R) v ∧ v.1 = I ∧ v.2.2 = R ∧ Rg r (0) (1) ∧ F_X1_addField a0 a1 a2 x3 I J R = (r, v)) := by
  refine CI.mkZ (plainFor_of_name (by decide)) (Nat.le_of_ble_eq_true rfl) ?_
  intro p e s m args below meth c ls Q hF ret hH hl
  obtain ⟨hx, hb, -, hml, hown, hts, -⟩ := hF
  have hl : lv_has ls 4 [(0, .ref a0), (1, .ref a1), (2, .ref a2), (3, .int x3)] := hl
  have hH : Hp D cy L C b0 s s.heap I J R s.heap [] := hH
  have sm : Sm C ms_X1_addField (I, J, R) (I, J, R) := Sm.rf
  obtain ⟨TT0, hT⟩ : ∃ TT0, TT0 = F_X1_addField a0 a1 a2 x3 I J R := ⟨_, rfl⟩
  have hv := hT
  unfold F_X1_addField at hv
  refine lv_aload_n hx hb dX1_addField_0 rfl (lv_at hl 1 rfl) ?_
  refine gf_5_5 hx hb hts hown hH m1 k1 rfl kf_X1_138 dX1_addField_1 ?_
  refine lv_topi (fun y1 ey1 => ?_)
  have ry1 : Rg y1 (-1) (2) := by rw [ey1]; exact rf_5_5 oI m1 k1
  replace hv := fnS hv ey1
  refine lv_iconst (v := (-1)) hx hb dX1_addField_4 (by decide) ?_
  have L_28 : ∀ (J_28 : hJ) (H : Heap) (locs : List Loc) (ls : Array Slot) (xs0_28 : Int32), Hp D cy L C b0 s s.heap I J_28 R H locs → TT0 = F_X1_addField_28 a0 a1 a2 x3 y1 I J_28 R xs0_28 → Sm C ms_X1_addField (I, J, R) (I, J_28, R) → Rg xs0_28 (0) (1) → lv_has ls 4 [] → W p l e (rmD 2) s m args below meth c H locs 0 0 Q (F0 m 28 ls [.int xs0_28]) := by
    intro J_28 H locs ls xs0_28 hH hv sm rs0_28 hl
    unfold F_X1_addField_28 at hv
    exact ret (xs0_28) _ _ _ _ _ _ _ dX1_addField_28 hH (Rg_01 (Rg_w rs0_28 (by decide))) ⟨⟨oI, oR, sm⟩, rfl, rfl, rs0_28, (hT.symm.trans hv)⟩
  have L_23 : ∀ (J_23 : hJ) (H : Heap) (locs : List Loc) (ls : Array Slot), Hp D cy L C b0 s s.heap I J_23 R H locs → TT0 = F_X1_addField_23 a0 a1 a2 x3 y1 I J_23 R → Sm C ms_X1_addField (I, J, R) (I, J_23, R) → lv_has ls 4 [] → W p l e (rmD 2) s m args below meth c H locs 0 0 Q (F0 m 23 ls []) := by
    intro J_23 H locs ls hH hv sm hl
    unfold F_X1_addField_23 at hv
    refine lv_iconst (v := 1) hx hb dX1_addField_23 (by decide) ?_
    refine lv_goto (tgt := 28) hx hb dX1_addField_24 (by decide) ?_
    exact L_28 J_23 _ _ _ 1 hH hv sm (Rg_w (Rg_c (x := 1) (a := (1)) (b := (1)) (by decide)) (by decide)) (lv_sub hl [] rfl)
  refine lv_icmp_eq (tgt := 23) hx hb dX1_addField_5 (by decide) (fun q2 => ?_) (fun q2 => ?_)
  · replace hv := fnP hv q2
    have r3 : Rg y1 (-1) (-1) := Rg_both ry1 (Rg_eqv q2 (Rg_c (x := (-1)) (a := (-1)) (b := (-1)) (by decide))) (by decide)
    exact L_23 J _ _ _ hH hv sm (lv_sub hl [] rfl)
  replace hv := fnN hv q2
  have r4 : Rg y1 (0) (2) := Rg_nelo ry1 (Rg_ne q2) (Rg_c (x := (-1)) (a := (-1)) (b := (-1)) (by decide)) (by decide)
  refine lv_aload_n hx hb dX1_addField_8 rfl (lv_at hl 0 rfl) ?_
  refine lv_aload_n hx hb dX1_addField_9 rfl (lv_at hl 2 rfl) ?_
  refine lv_iload_n hx hb dX1_addField_10 rfl (lv_at hl 3 rfl) ?_
  refine lv_aload_n hx hb dX1_addField_11 rfl (lv_at hl 1 rfl) ?_
  refine gf_5_5 hx hb hts hown hH m1 k1 rfl kf_X1_138 dX1_addField_12 ?_
  refine lv_topi (fun y5 ey5 => ?_)
  obtain rfl : y1 = y5 := ey1.trans ey5.symm
  refine lv_iadd hx hb dX1_addField_15 ?_
  refine lv_topi (fun y6 ey6 => ?_)
  replace hv := fnS hv ey6
  obtain ⟨ty6, ry6⟩ := Rg_addx (a' := (0)) (b' := (59)) (rfl : x3.toInt = _) (rfl : y1.toInt = _) h3 r4 (by decide)
  rw [← ey6] at ty6 ry6
  refine ld_49 hx hb hH m2 k2 (Rg_in ry6 (by decide)) dX1_addField_16 ?_
  refine lv_topl (fun w7 ew7 => ?_)
  replace hv := fnS hv ew7
  refine ca_X1_168 hx hb hml hown hts hH (c_X1_addTo oI oR m0 k0) hl.1 m0 k0 rfl (by decide) (Nat.le_of_ble_eq_true rfl) ⟨Nat.zero_le _, Nat.zero_le _⟩ dX1_addField_17 (fun y8 I8 J8 R8 H locs hp hH => ?_)
  obtain ⟨⟨-, -, sc8⟩, eI8, eR8, ry8, hf8⟩ := hp
  obtain rfl : I = I8 := eI8.symm
  obtain rfl : R = R8 := eR8.symm
  replace hv := fnC hv hf8
  have sm : Sm C ms_X1_addField (I, J, R) (I, J8, R) := sm.tr sc8 rfl
  refine lv_if_eq (tgt := 27) hx hb dX1_addField_20 (by decide) (fun q9 => ?_) (fun q9 => ?_)
  rotate_left
  · replace hv := fnN hv q9
    have r11 : Rg y8 (1) (1) := Rg_nelo ry8 (Rg_ne q9) (Rg_c (x := 0) (a := (0)) (b := (0)) (by decide)) (by decide)
    exact L_23 J8 _ _ _ hH hv sm (lv_sub hl [] rfl)
  replace hv := fnP hv q9
  have r10 : Rg y8 (0) (0) := Rg_both ry8 (Rg_eqv q9 (Rg_c (x := 0) (a := (0)) (b := (0)) (by decide))) (by decide)
  refine lv_iconst (v := 0) hx hb dX1_addField_27 (by decide) ?_
  exact L_28 J8 _ _ _ 0 hH hv sm (Rg_w (Rg_c (x := 0) (a := (0)) (b := (0)) (by decide)) (by decide)) (lv_sub hl [] rfl)
noncomputable def B_X1_writeField_8 (a0 : Nat) (a1 : Nat) (a2 : Nat) (x3 : Int32) (k_8 : hI → hJ → hR → Int32 → (Int32 × hU)) (I : hI) (J_8 : hJ) (R : hR) (x4_8 : Int32) : Int32 × hU :=
  nm (I a1 2) fun y2 => (if y2 ≤ x4_8 then nm (J_8 a0 10) fun w4 => nm (J_8 a2 (Int32.toNatClampNeg x3)) fun w5 => nmU (F_X1_giveIfOf a0 a1 w5 I J_8 R) fun y6 _ J6 _ => (if y6 = (0 : Int32) then ((0 : Int32), (I, J6, R)) else nm (u2 J6 a2 (Int32.toNatClampNeg x3) w4) fun J9 => ((1 : Int32), (I, J9, R))) else nm ((R a0 8).getD 0) fun b13 => nm (J_8 b13 (Int32.toNatClampNeg x4_8)) fun w14 => nmU (F_X1_addTo a0 w14 I J_8 R) fun y15 _ J15 _ => (if y15 = (0 : Int32) then ((0 : Int32), (I, J15, R)) else nm (x4_8 + (1 : Int32)) fun y18 => k_8 I J15 R y18))
noncomputable def F_X1_writeField_8 (a0 : Nat) (a1 : Nat) (a2 : Nat) (x3 : Int32) : Nat → hI → hJ → hR → Int32 → (Int32 × hU) := fun n => Nat.rec (motive := fun _ => hI → hJ → hR → Int32 → (Int32 × hU)) (fun _ _ _ _ => default) (fun _ k => B_X1_writeField_8 a0 a1 a2 x3 k) n
theorem F_X1_writeField_8_s {a0 : Nat} {a1 : Nat} {a2 : Nat} {x3 : Int32} {n : Nat} {I : hI} {J_8 : hJ} {R : hR} {x4_8 : Int32} : F_X1_writeField_8 a0 a1 a2 x3 (n + 1)  I J_8 R x4_8 = B_X1_writeField_8 a0 a1 a2 x3 (F_X1_writeField_8 a0 a1 a2 x3 n)  I J_8 R x4_8 := rfl
noncomputable def F_X1_writeField (a0 : Nat) (a1 : Nat) (a2 : Nat) (x3 : Int32) (I : hI) (J : hJ) (R : hR) : Int32 × hU :=
  nm (u2 J a0 10 (0 : Int64)) fun J1 => F_X1_writeField_8 a0 a1 a2 x3 ((4 - (0 : Int32).toInt).toNat + 1) I J1 R (0 : Int32)
def ms_X1_writeField : List Nat := [74, 3136]
set_option maxHeartbeats 4000000 in
set_option maxRecDepth 100000 in
theorem c_X1_writeField {l : Launch} {D : va_G} {cy : Nat → ClassId} {L : List Nat} {C : Nat → Nat} {b0 : Nat} {I : hI} {J : hJ} {R : hR} {a0 : Nat} {a1 : Nat} {a2 : Nat} {x3 : Int32} (oI : OkI L C I) (oR : OkR L C R) (m0 : a0 ∈ L) (k0 : C a0 = 1) (m1 : a1 ∈ L) (k1 : C a1 = 5) (m2 : a2 ∈ L) (k2 : C a2 = 49) (h3 : Rg x3 (0) (59)) : CI l yX1_writeField cX1_writeField 6 .boolean 2 D cy L C b0 [.ref a0, .ref a1, .ref a2, .int x3] (I, J, R) (fun r v => Ps L C ms_X1_writeField (I, J, R) v ∧ v.1 = I ∧ v.2.2 = R ∧ Rg r (0) (1) ∧ F_X1_writeField a0 a1 a2 x3 I J R = (r, v)) := by
  refine CI.mkZ (plainFor_of_name (by decide)) (Nat.le_of_ble_eq_true rfl) ?_
  intro p e s m args below meth c ls Q hF ret hH hl
  obtain ⟨hx, hb, -, hml, hown, hts, -⟩ := hF
  have hl : lv_has ls 6 [(0, .ref a0), (1, .ref a1), (2, .ref a2), (3, .int x3)] := hl
  have hH : Hp D cy L C b0 s s.heap I J R s.heap [] := hH
  have sm : Sm C ms_X1_writeField (I, J, R) (I, J, R) := Sm.rf
  obtain ⟨TT0, hT⟩ : ∃ TT0, TT0 = F_X1_writeField a0 a1 a2 x3 I J R := ⟨_, rfl⟩
  have hv := hT
  unfold F_X1_writeField at hv
  refine lv_aload_n hx hb dX1_writeField_0 rfl (lv_at hl 0 rfl) ?_
  refine lv_lconst (v := 0) hx hb dX1_writeField_1 (by decide) ?_
  refine pf_1_10 hx hb hts hown hH m0 k0 rfl kf_X1_35 dX1_writeField_2 (fun J1 H locs eJ1 hH => ?_)
  replace hv := fnS hv eJ1
  have sm : Sm C ms_X1_writeField (I, J, R) (I, J1, R) := by rw [eJ1]; exact sm.stJ k0 (mC_obj (by decide) rfl)
  refine lv_iconst (v := 0) hx hb dX1_writeField_5 (by decide) ?_
  refine lv_istore (lv' := [(4, .int 0), (0, .ref a0), (1, .ref a1), (2, .ref a2), (3, .int x3)]) hx hb dX1_writeField_6 hl (by decide) rfl (fun ls hl => ?_)
  have L_8 : ∀ (n_8 : Nat) (J_8 : hJ) (H : Heap) (locs : List Loc) (ls : Array Slot) (x4_8 : Int32), (4 - x4_8.toInt).toNat < n_8 → Hp D cy L C b0 s s.heap I J_8 R H locs → TT0 = F_X1_writeField_8 a0 a1 a2 x3 n_8 I J_8 R x4_8 → Sm C ms_X1_writeField (I, J, R) (I, J_8, R) → Rg x3 (0) (59) → Rg x4_8 (0) (4) → lv_has ls 6 [(0, .ref a0), (1, .ref a1), (2, .ref a2), (3, .int x3), (4, .int x4_8)] → W p l e (rmD 2) s m args below meth c H locs 0 0 Q (F0 m 8 ls []) := by
    intro n_8
    induction n_8 with
    | zero => intro J_8 H locs ls x4_8 h; exact absurd h (Nat.not_lt_zero _)
    | succ n_8 ih_8 =>
      intro J_8 H locs ls x4_8 hn_8 hH hv sm r3_8 r4_8 hl
      replace hv := hv.trans F_X1_writeField_8_s
      unfold B_X1_writeField_8 at hv
      refine lv_iload hx hb dX1_writeField_8 (lv_at hl 4 rfl) ?_
      refine lv_aload_n hx hb dX1_writeField_10 rfl (lv_at hl 1 rfl) ?_
      refine gf_5_2 hx hb hts hown hH m1 k1 rfl kf_X1_102 dX1_writeField_11 ?_
      refine lv_topi (fun y2 ey2 => ?_)
      have ry2 : Rg y2 (0) (4) := by rw [ey2]; exact rf_5_2 oI m1 k1
      replace hv := fnS hv ey2
      refine lv_icmp_ge (tgt := 39) hx hb dX1_writeField_14 (by decide) (fun q3 => ?_) (fun q3 => ?_)
      rotate_left
      · replace hv := fnN hv q3
        have r11 : Rg x4_8 (0) (3) := Rg_ult r4_8 (Rg_nle q3) ry2 (by decide)
        have r12 : Rg y2 (1) (4) := Rg_llt ry2 (Rg_nle q3) r4_8 (by decide)
        refine lv_aload_n hx hb dX1_writeField_17 rfl (lv_at hl 0 rfl) ?_
        refine lv_aload_n hx hb dX1_writeField_18 rfl (lv_at hl 0 rfl) ?_
        obtain ⟨b13, mb13, vb13, kb13⟩ := rf_1_8 oR m0 k0
        replace hv := fnR hv vb13
        refine gf_1_8 vb13 hx hb hts hown hH m0 k0 rfl kf_X1_29 dX1_writeField_19 ?_
        refine lv_iload hx hb dX1_writeField_22 (lv_at hl 4 rfl) ?_
        refine ld_53 hx hb hH mb13 kb13 (Rg_in r11 (by decide)) dX1_writeField_24 ?_
        refine lv_topl (fun w14 ew14 => ?_)
        replace hv := fnS hv ew14
        refine ca_X1_168 hx hb hml hown hts hH (c_X1_addTo oI oR m0 k0) hl.1 m0 k0 rfl (by decide) (Nat.le_of_ble_eq_true rfl) ⟨Nat.zero_le _, Nat.zero_le _⟩ dX1_writeField_25 (fun y15 I15 J15 R15 H locs hp hH => ?_)
        obtain ⟨⟨-, -, sc15⟩, eI15, eR15, ry15, hf15⟩ := hp
        obtain rfl : I = I15 := eI15.symm
        obtain rfl : R = R15 := eR15.symm
        replace hv := fnC hv hf15
        have sm : Sm C ms_X1_writeField (I, J, R) (I, J15, R) := sm.tr sc15 rfl
        refine lv_if_ne (tgt := 33) hx hb dX1_writeField_28 (by decide) (fun q16 => ?_) (fun q16 => ?_)
        rotate_left
        · replace hv := fnP hv q16
          have r19 : Rg y15 (0) (0) := Rg_both ry15 (Rg_eqv q16 (Rg_c (x := 0) (a := (0)) (b := (0)) (by decide))) (by decide)
          refine lv_iconst (v := 0) hx hb dX1_writeField_31 (by decide) ?_
          exact ret (0) _ _ _ _ _ _ _ dX1_writeField_32 hH (Rg_01 (Rg_w (Rg_c (x := 0) (a := (0)) (b := (0)) (by decide)) (by decide))) ⟨⟨oI, oR, sm⟩, rfl, rfl, (Rg_w (Rg_c (x := 0) (a := (0)) (b := (0)) (by decide)) (by decide)), (hT.symm.trans hv)⟩
        replace hv := fnN hv q16
        have r17 : Rg y15 (1) (1) := Rg_nelo ry15 (Rg_ne q16) (Rg_c (x := 0) (a := (0)) (b := (0)) (by decide)) (by decide)
        obtain ⟨y18, ey18⟩ : ∃ y : Int32, y = x4_8 + 1 := ⟨_, rfl⟩
        replace hv := fnS hv ey18
        obtain ⟨ty18, ry18⟩ := Rg_addx (a' := (1)) (b' := (4)) (rfl : x4_8.toInt = _) (by decide : Int32.toInt 1 = 1) r11 (Rg_c (x := 1) (a := (1)) (b := (1)) (by decide)) (by decide)
        rw [← ey18] at ty18 ry18
        refine lv_iinc (v := y18) (lv' := [(4, .int y18), (0, .ref a0), (1, .ref a1), (2, .ref a2), (3, .int x3)]) hx hb dX1_writeField_33 hl (k := 4) rfl (by rw [ey18]; rfl) (by decide) rfl (fun ls hl => ?_)
        refine lv_goto (tgt := 8) hx hb dX1_writeField_36 (by decide) ?_
        exact ih_8 J15 _ _ _ y18 (lp_up hn_8 ty18 (Rg_ltc r11 (by decide))) hH hv sm r3_8 (Rg_w ry18 (by decide)) (lv_sub hl [1, 2, 3, 4, 0] rfl)
      replace hv := fnP hv q3
      refine lv_aload_n hx hb dX1_writeField_39 rfl (lv_at hl 0 rfl) ?_
      refine gf_1_10 hx hb hts hown hH m0 k0 rfl kf_X1_35 dX1_writeField_40 ?_
      refine lv_topl (fun w4 ew4 => ?_)
      replace hv := fnS hv ew4
      refine lv_lstore (lv' := [(4, .long w4), (0, .ref a0), (1, .ref a1), (2, .ref a2), (3, .int x3)]) hx hb dX1_writeField_43 hl (by decide) rfl (fun ls hl => ?_)
      refine lv_aload_n hx hb dX1_writeField_45 rfl (lv_at hl 1 rfl) ?_
      refine lv_aload_n hx hb dX1_writeField_46 rfl (lv_at hl 2 rfl) ?_
      refine lv_aload_n hx hb dX1_writeField_47 rfl (lv_at hl 3 rfl) ?_
      refine lv_iload_n hx hb dX1_writeField_48 rfl (lv_at hl 4 rfl) ?_
      refine ld_49 hx hb hH m2 k2 (Rg_in r3_8 (by decide)) dX1_writeField_49 ?_
      refine lv_topl (fun w5 ew5 => ?_)
      replace hv := fnS hv ew5
      refine ca_X1_141 hx hb hml hown hts hH (c_X1_giveIfOf oI oR m0 k0 m1 k1) hl.1 m0 k0 rfl (by decide) (Nat.le_of_ble_eq_true rfl) ⟨Nat.zero_le _, Nat.zero_le _⟩ dX1_writeField_50 (fun y6 I6 J6 R6 H locs hp hH => ?_)
      obtain ⟨⟨-, -, sc6⟩, eI6, eR6, ry6, hf6⟩ := hp
      obtain rfl : I = I6 := eI6.symm
      obtain rfl : R = R6 := eR6.symm
      replace hv := fnC hv hf6
      have sm : Sm C ms_X1_writeField (I, J, R) (I, J6, R) := sm.tr sc6 rfl
      refine lv_if_ne (tgt := 58) hx hb dX1_writeField_53 (by decide) (fun q7 => ?_) (fun q7 => ?_)
      rotate_left
      · replace hv := fnP hv q7
        have r10 : Rg y6 (0) (0) := Rg_both ry6 (Rg_eqv q7 (Rg_c (x := 0) (a := (0)) (b := (0)) (by decide))) (by decide)
        refine lv_iconst (v := 0) hx hb dX1_writeField_56 (by decide) ?_
        exact ret (0) _ _ _ _ _ _ _ dX1_writeField_57 hH (Rg_01 (Rg_w (Rg_c (x := 0) (a := (0)) (b := (0)) (by decide)) (by decide))) ⟨⟨oI, oR, sm⟩, rfl, rfl, (Rg_w (Rg_c (x := 0) (a := (0)) (b := (0)) (by decide)) (by decide)), (hT.symm.trans hv)⟩
      replace hv := fnN hv q7
      have r8 : Rg y6 (1) (1) := Rg_nelo ry6 (Rg_ne q7) (Rg_c (x := 0) (a := (0)) (b := (0)) (by decide)) (by decide)
      refine lv_aload_n hx hb dX1_writeField_58 rfl (lv_at hl 3 rfl) ?_
      refine lv_iload_n hx hb dX1_writeField_59 rfl (lv_at hl 4 rfl) ?_
      refine lv_lload hx hb dX1_writeField_60 (lv_at hl 0 rfl) ?_
      refine st_49 hx hb hH m2 k2 (Rg_in r3_8 (by decide)) dX1_writeField_62 (fun J9 H locs eJ9 hH => ?_)
      replace hv := fnS hv eJ9
      have sm : Sm C ms_X1_writeField (I, J, R) (I, J9, R) := by rw [eJ9]; exact sm.stJ k2 (mC_arr (by decide) rfl)
      refine lv_iconst (v := 1) hx hb dX1_writeField_63 (by decide) ?_
      exact ret (1) _ _ _ _ _ _ _ dX1_writeField_64 hH (Rg_01 (Rg_w (Rg_c (x := 1) (a := (1)) (b := (1)) (by decide)) (by decide))) ⟨⟨oI, oR, sm⟩, rfl, rfl, (Rg_w (Rg_c (x := 1) (a := (1)) (b := (1)) (by decide)) (by decide)), (hT.symm.trans hv)⟩
  exact L_8 ((4 - (0 : Int32).toInt).toNat + 1) J1 _ _ _ 0 (Nat.lt_succ_self _) hH hv sm h3 (Rg_w (Rg_c (x := 0) (a := (0)) (b := (0)) (by decide)) (by decide)) (lv_sub hl [1, 2, 3, 4, 0] rfl)
noncomputable def F_X1_doWork (a0 : Nat) (a1 : Nat) (x2 : Int32) (I : hI) (J : hJ) (R : hR) : Int32 × hU :=
  nm ((R a0 5).getD 0) fun b1 => nm (I a0 7) fun y2 => nm ((R b1 (Int32.toNatClampNeg y2)).getD 0) fun b3 => nm (I b3 4) fun y4 => (if Int32.toInt y4 = 0 then nmU (F_X1_addUp a0 b3 I J R) fun y7 _ J7 _ => (if y7 = (0 : Int32) then nm ((R a0 3).getD 0) fun b12 => nmW (F_X4_noteFailure b12 (2 : Int32) (-1 : Int32) I J7 R) fun I13 _ _ => ((0 : Int32), (I13, J7, R)) else nmU (F_X1_addField a0 b3 a1 x2 I J7 R) fun y16 _ J16 _ => (if y16 = (0 : Int32) then nm ((R a0 3).getD 0) fun b21 => nmW (F_X4_noteFailure b21 (2 : Int32) (-1 : Int32) I J16 R) fun I22 _ _ => ((0 : Int32), (I22, J16, R)) else nm (J16 a0 10) fun w25 => nmU (F_X1_giveIfOf a0 b3 w25 I J16 R) fun y26 _ J26 _ => (if y26 = (0 : Int32) then nm ((R a0 3).getD 0) fun b31 => nmW (F_X4_noteFailure b31 (2 : Int32) (-1 : Int32) I J26 R) fun I32 _ _ => ((0 : Int32), (I32, J26, R)) else ((1 : Int32), (I, J26, R))))) else (if Int32.toInt y4 = 1 then nm (I b3 5) fun y37 => nm (x2 + y37) fun y39 => nm (J a1 (Int32.toNatClampNeg y39)) fun w40 => nmU (F_X1_giveIfOf a0 b3 w40 I J R) fun y41 _ J41 _ => (if y41 = (0 : Int32) then nm ((R a0 3).getD 0) fun b47 => nmW (F_X4_noteFailure b47 (2 : Int32) (-1 : Int32) I J41 R) fun I48 _ _ => (y41, (I48, J41, R)) else (y41, (I, J41, R))) else (if Int32.toInt y4 = 2 then nm (I b3 5) fun y50 => nm (x2 + y50) fun y52 => nmU (F_X1_writeField a0 b3 a1 y52 I J R) fun y53 _ J53 _ => (if y53 = (0 : Int32) then nm ((R a0 3).getD 0) fun b59 => nmW (F_X4_noteFailure b59 (2 : Int32) (-1 : Int32) I J53 R) fun I60 _ _ => (y53, (I60, J53, R)) else (y53, (I, J53, R))) else default)))
def ms_X1_doWork : List Nat := [74, 257, 258, 3136]
set_option maxHeartbeats 4000000 in
set_option maxRecDepth 100000 in
theorem c_X1_doWork {l : Launch} {D : va_G} {cy : Nat → ClassId} {L : List Nat} {C : Nat → Nat} {b0 : Nat} {I : hI} {J : hJ} {R : hR} {a0 : Nat} {a1 : Nat} {x2 : Int32} (oI : OkI L C I) (oR : OkR L C R) (m0 : a0 ∈ L) (k0 : C a0 = 1) (m1 : a1 ∈ L) (k1 : C a1 = 49) (h2 : Rg x2 (0) (57)) (hXM : XM L C I) : CI l yX1_doWork cX1_doWork 5 .boolean 3 D cy L C b0 [.ref a0, .ref a1, .int x2] (I, J, R) (fun r v => Ps L C ms_X1_doWork (I, J, R) v ∧ v.2.2 = R ∧ Rg r (0) (1) ∧ F_X1_doWork a0 a1 x2 I J R = (r, v)) := by
  refine CI.mkZ (plainFor_of_name (by decide)) (Nat.le_of_ble_eq_true rfl) ?_
  intro p e s m args below meth c ls Q hF ret hH hl
  obtain ⟨hx, hb, -, hml, hown, hts, -⟩ := hF
  have hl : lv_has ls 5 [(0, .ref a0), (1, .ref a1), (2, .int x2)] := hl
  have hH : Hp D cy L C b0 s s.heap I J R s.heap [] := hH
  have sm : Sm C ms_X1_doWork (I, J, R) (I, J, R) := Sm.rf
  obtain ⟨TT0, hT⟩ : ∃ TT0, TT0 = F_X1_doWork a0 a1 x2 I J R := ⟨_, rfl⟩
  have hv := hT
  unfold F_X1_doWork at hv
  refine lv_aload_n hx hb dX1_doWork_0 rfl (lv_at hl 0 rfl) ?_
  obtain ⟨b1, mb1, vb1, kb1⟩ := rf_1_5 oR m0 k0
  replace hv := fnR hv vb1
  refine gf_1_5 vb1 hx hb hts hown hH m0 k0 rfl kf_X1_17 dX1_doWork_1 ?_
  refine lv_aload_n hx hb dX1_doWork_4 rfl (lv_at hl 0 rfl) ?_
  refine gf_1_7 hx hb hts hown hH m0 k0 rfl kf_X1_25 dX1_doWork_5 ?_
  refine lv_topi (fun y2 ey2 => ?_)
  have ry2 : Rg y2 (0) (10) := by rw [ey2]; exact rf_1_7 oI m0 k0
  replace hv := fnS hv ey2
  obtain ⟨b3, mb3, vb3, kb3⟩ := rr_51 oR mb1 kb1 (Rg_in ry2 (by decide))
  replace hv := fnR hv vb3
  refine ld_51 hx hb hH mb1 kb1 (Rg_in ry2 (by decide)) vb3 dX1_doWork_8 ?_
  refine lv_astore_n (lv' := [(3, .ref b3), (0, .ref a0), (1, .ref a1), (2, .int x2)]) hx hb dX1_doWork_9 rfl hl (by decide) rfl (fun ls hl => ?_)
  refine lv_aload_n hx hb dX1_doWork_10 rfl (lv_at hl 0 rfl) ?_
  refine gf_5_4 hx hb hts hown hH mb3 kb3 rfl kf_X1_135 dX1_doWork_11 ?_
  refine lv_topi (fun y4 ey4 => ?_)
  have ry4 : Rg y4 (0) (2) := by rw [ey4]; exact rf_5_4 oI mb3 kb3
  replace hv := fnS hv ey4
  rcases (show y4.toInt = 0 ∨ y4.toInt = 1 ∨ y4.toInt = 2 by have z51 := ry4.1; have z52 := ry4.2; omega) with z5 | z5 | z5
  · have r6 : Rg y4 (0) (0) := ⟨by rw [z5]; decide, by rw [z5]; decide⟩
    refine lv_lookup (tgt := 75) hx hb dX1_doWork_14 (by decide) (by rw [z5]; try rfl) (by decide) ?_
    replace hv := fnP hv z5
    refine lv_aload_n hx hb dX1_doWork_75 rfl (lv_at hl 1 rfl) ?_
    refine lv_aload_n hx hb dX1_doWork_76 rfl (lv_at hl 0 rfl) ?_
    refine ca_X1_149 hx hb hml hown hts hH (c_X1_addUp oI oR m0 k0 mb3 kb3) hl.1 m0 k0 rfl (by decide) (Nat.le_of_ble_eq_true rfl) ⟨Nat.zero_le _, Nat.zero_le _⟩ dX1_doWork_77 (fun y7 I7 J7 R7 H locs hp hH => ?_)
    obtain ⟨⟨-, -, sc7⟩, eI7, eR7, ry7, hf7⟩ := hp
    obtain rfl : I = I7 := eI7.symm
    obtain rfl : R = R7 := eR7.symm
    replace hv := fnC hv hf7
    have sm : Sm C ms_X1_doWork (I, J, R) (I, J7, R) := sm.tr sc7 rfl
    refine lv_if_eq (tgt := 109) hx hb dX1_doWork_80 (by decide) (fun q8 => ?_) (fun q8 => ?_)
    · replace hv := fnP hv q8
      have l9 := congrArg Int32.toInt q8
      have r10 : Rg y7 (0) (0) := Rg_both ry7 (Rg_eqv q8 (Rg_c (x := 0) (a := (0)) (b := (0)) (by decide))) (by decide)
      refine lv_iconst (v := 0) hx hb dX1_doWork_109 (by decide) ?_
      refine lv_istore (lv' := [(4, .int 0), (3, .ref b3), (0, .ref a0), (1, .ref a1), (2, .int x2)]) hx hb dX1_doWork_110 hl (by decide) rfl (fun ls hl => ?_)
      refine lv_iload hx hb dX1_doWork_112 (lv_at hl 0 rfl) ?_
      refine lv_if_ne (tgt := 126) hx hb dX1_doWork_114 (by decide) (fun q11 => ?_) (fun q11 => ?_)
      · exact absurd rfl q11
      refine lv_aload_n hx hb dX1_doWork_117 rfl (lv_at hl 2 rfl) ?_
      obtain ⟨b12, mb12, vb12, kb12⟩ := rf_1_3 oR m0 k0
      replace hv := fnR hv vb12
      refine gf_1_3 vb12 hx hb hts hown hH m0 k0 rfl kf_X1_51 dX1_doWork_118 ?_
      refine lv_iconst (v := 2) hx hb dX1_doWork_121 (by decide) ?_
      refine lv_iconst (v := (-1)) hx hb dX1_doWork_122 (by decide) ?_
      refine ca_X1_112 hx hb hml hown hts hH (c_X4_noteFailure oI oR mb12 kb12) hl.1 mb12 kb12 rfl (by decide) (Nat.le_of_ble_eq_true rfl) ⟨Nat.zero_le _, Nat.zero_le _⟩ dX1_doWork_123 (fun I13 J13 R13 H locs hp hH => ?_)
      obtain ⟨⟨oI, -, sc13⟩, eJ13, eR13, hf13⟩ := hp
      obtain rfl : J7 = J13 := eJ13.symm
      obtain rfl : R = R13 := eR13.symm
      replace hv := fnW hv hf13
      have sm : Sm C ms_X1_doWork (I, J, R) (I13, J7, R) := sm.tr sc13 rfl
      refine lv_iload hx hb dX1_doWork_126 (lv_at hl 0 rfl) ?_
      exact ret (0) _ _ _ _ _ _ _ dX1_doWork_128 hH (Rg_01 (Rg_w (Rg_c (x := 0) (a := (0)) (b := (0)) (by decide)) (by decide))) ⟨⟨oI, oR, sm⟩, rfl, (Rg_w (Rg_c (x := 0) (a := (0)) (b := (0)) (by decide)) (by decide)), (hT.symm.trans hv)⟩
    replace hv := fnN hv q8
    have l14 := Rg_ne q8
    have r15 : Rg y7 (1) (1) := Rg_nelo ry7 (Rg_ne q8) (Rg_c (x := 0) (a := (0)) (b := (0)) (by decide)) (by decide)
    refine lv_aload_n hx hb dX1_doWork_83 rfl (lv_at hl 1 rfl) ?_
    refine lv_aload_n hx hb dX1_doWork_84 rfl (lv_at hl 0 rfl) ?_
    refine lv_aload_n hx hb dX1_doWork_85 rfl (lv_at hl 2 rfl) ?_
    refine lv_iload_n hx hb dX1_doWork_86 rfl (lv_at hl 3 rfl) ?_
    refine ca_X1_153 hx hb hml hown hts hH (c_X1_addField oI oR m0 k0 mb3 kb3 m1 k1 h2) hl.1 m0 k0 rfl (by decide) (Nat.le_of_ble_eq_true rfl) ⟨Nat.zero_le _, Nat.zero_le _⟩ dX1_doWork_87 (fun y16 I16 J16 R16 H locs hp hH => ?_)
    obtain ⟨⟨-, -, sc16⟩, eI16, eR16, ry16, hf16⟩ := hp
    obtain rfl : I = I16 := eI16.symm
    obtain rfl : R = R16 := eR16.symm
    replace hv := fnC hv hf16
    have sm : Sm C ms_X1_doWork (I, J, R) (I, J16, R) := sm.tr sc16 rfl
    refine lv_if_eq (tgt := 109) hx hb dX1_doWork_90 (by decide) (fun q17 => ?_) (fun q17 => ?_)
    · replace hv := fnP hv q17
      have l18 := congrArg Int32.toInt q17
      have r19 : Rg y16 (0) (0) := Rg_both ry16 (Rg_eqv q17 (Rg_c (x := 0) (a := (0)) (b := (0)) (by decide))) (by decide)
      refine lv_iconst (v := 0) hx hb dX1_doWork_109 (by decide) ?_
      refine lv_istore (lv' := [(4, .int 0), (3, .ref b3), (0, .ref a0), (1, .ref a1), (2, .int x2)]) hx hb dX1_doWork_110 hl (by decide) rfl (fun ls hl => ?_)
      refine lv_iload hx hb dX1_doWork_112 (lv_at hl 0 rfl) ?_
      refine lv_if_ne (tgt := 126) hx hb dX1_doWork_114 (by decide) (fun q20 => ?_) (fun q20 => ?_)
      · exact absurd rfl q20
      refine lv_aload_n hx hb dX1_doWork_117 rfl (lv_at hl 2 rfl) ?_
      obtain ⟨b21, mb21, vb21, kb21⟩ := rf_1_3 oR m0 k0
      replace hv := fnR hv vb21
      refine gf_1_3 vb21 hx hb hts hown hH m0 k0 rfl kf_X1_51 dX1_doWork_118 ?_
      refine lv_iconst (v := 2) hx hb dX1_doWork_121 (by decide) ?_
      refine lv_iconst (v := (-1)) hx hb dX1_doWork_122 (by decide) ?_
      refine ca_X1_112 hx hb hml hown hts hH (c_X4_noteFailure oI oR mb21 kb21) hl.1 mb21 kb21 rfl (by decide) (Nat.le_of_ble_eq_true rfl) ⟨Nat.zero_le _, Nat.zero_le _⟩ dX1_doWork_123 (fun I22 J22 R22 H locs hp hH => ?_)
      obtain ⟨⟨oI, -, sc22⟩, eJ22, eR22, hf22⟩ := hp
      obtain rfl : J16 = J22 := eJ22.symm
      obtain rfl : R = R22 := eR22.symm
      replace hv := fnW hv hf22
      have sm : Sm C ms_X1_doWork (I, J, R) (I22, J16, R) := sm.tr sc22 rfl
      refine lv_iload hx hb dX1_doWork_126 (lv_at hl 0 rfl) ?_
      exact ret (0) _ _ _ _ _ _ _ dX1_doWork_128 hH (Rg_01 (Rg_w (Rg_c (x := 0) (a := (0)) (b := (0)) (by decide)) (by decide))) ⟨⟨oI, oR, sm⟩, rfl, (Rg_w (Rg_c (x := 0) (a := (0)) (b := (0)) (by decide)) (by decide)), (hT.symm.trans hv)⟩
    replace hv := fnN hv q17
    have l23 := Rg_ne q17
    have r24 : Rg y16 (1) (1) := Rg_nelo ry16 (Rg_ne q17) (Rg_c (x := 0) (a := (0)) (b := (0)) (by decide)) (by decide)
    refine lv_aload_n hx hb dX1_doWork_93 rfl (lv_at hl 1 rfl) ?_
    refine lv_aload_n hx hb dX1_doWork_94 rfl (lv_at hl 0 rfl) ?_
    refine lv_aload_n hx hb dX1_doWork_95 rfl (lv_at hl 1 rfl) ?_
    refine gf_1_10 hx hb hts hown hH m0 k0 rfl kf_X1_35 dX1_doWork_96 ?_
    refine lv_topl (fun w25 ew25 => ?_)
    replace hv := fnS hv ew25
    refine ca_X1_141 hx hb hml hown hts hH (c_X1_giveIfOf oI oR m0 k0 mb3 kb3) hl.1 m0 k0 rfl (by decide) (Nat.le_of_ble_eq_true rfl) ⟨Nat.zero_le _, Nat.zero_le _⟩ dX1_doWork_99 (fun y26 I26 J26 R26 H locs hp hH => ?_)
    obtain ⟨⟨-, -, sc26⟩, eI26, eR26, ry26, hf26⟩ := hp
    obtain rfl : I = I26 := eI26.symm
    obtain rfl : R = R26 := eR26.symm
    replace hv := fnC hv hf26
    have sm : Sm C ms_X1_doWork (I, J, R) (I, J26, R) := sm.tr sc26 rfl
    refine lv_if_eq (tgt := 109) hx hb dX1_doWork_102 (by decide) (fun q27 => ?_) (fun q27 => ?_)
    rotate_left
    · replace hv := fnN hv q27
      have l33 := Rg_ne q27
      have r34 : Rg y26 (1) (1) := Rg_nelo ry26 (Rg_ne q27) (Rg_c (x := 0) (a := (0)) (b := (0)) (by decide)) (by decide)
      refine lv_iconst (v := 1) hx hb dX1_doWork_105 (by decide) ?_
      refine lv_goto (tgt := 110) hx hb dX1_doWork_106 (by decide) ?_
      refine lv_istore (lv' := [(4, .int 1), (3, .ref b3), (0, .ref a0), (1, .ref a1), (2, .int x2)]) hx hb dX1_doWork_110 hl (by decide) rfl (fun ls hl => ?_)
      refine lv_iload hx hb dX1_doWork_112 (lv_at hl 0 rfl) ?_
      refine lv_if_ne (tgt := 126) hx hb dX1_doWork_114 (by decide) (fun q35 => ?_) (fun q35 => ?_)
      rotate_left
      · exact absurd q35 (by decide)
      refine lv_iload hx hb dX1_doWork_126 (lv_at hl 0 rfl) ?_
      exact ret (1) _ _ _ _ _ _ _ dX1_doWork_128 hH (Rg_01 (Rg_w (Rg_c (x := 1) (a := (1)) (b := (1)) (by decide)) (by decide))) ⟨⟨oI, oR, sm⟩, rfl, (Rg_w (Rg_c (x := 1) (a := (1)) (b := (1)) (by decide)) (by decide)), (hT.symm.trans hv)⟩
    replace hv := fnP hv q27
    have l28 := congrArg Int32.toInt q27
    have r29 : Rg y26 (0) (0) := Rg_both ry26 (Rg_eqv q27 (Rg_c (x := 0) (a := (0)) (b := (0)) (by decide))) (by decide)
    refine lv_iconst (v := 0) hx hb dX1_doWork_109 (by decide) ?_
    refine lv_istore (lv' := [(4, .int 0), (3, .ref b3), (0, .ref a0), (1, .ref a1), (2, .int x2)]) hx hb dX1_doWork_110 hl (by decide) rfl (fun ls hl => ?_)
    refine lv_iload hx hb dX1_doWork_112 (lv_at hl 0 rfl) ?_
    refine lv_if_ne (tgt := 126) hx hb dX1_doWork_114 (by decide) (fun q30 => ?_) (fun q30 => ?_)
    · exact absurd rfl q30
    refine lv_aload_n hx hb dX1_doWork_117 rfl (lv_at hl 2 rfl) ?_
    obtain ⟨b31, mb31, vb31, kb31⟩ := rf_1_3 oR m0 k0
    replace hv := fnR hv vb31
    refine gf_1_3 vb31 hx hb hts hown hH m0 k0 rfl kf_X1_51 dX1_doWork_118 ?_
    refine lv_iconst (v := 2) hx hb dX1_doWork_121 (by decide) ?_
    refine lv_iconst (v := (-1)) hx hb dX1_doWork_122 (by decide) ?_
    refine ca_X1_112 hx hb hml hown hts hH (c_X4_noteFailure oI oR mb31 kb31) hl.1 mb31 kb31 rfl (by decide) (Nat.le_of_ble_eq_true rfl) ⟨Nat.zero_le _, Nat.zero_le _⟩ dX1_doWork_123 (fun I32 J32 R32 H locs hp hH => ?_)
    obtain ⟨⟨oI, -, sc32⟩, eJ32, eR32, hf32⟩ := hp
    obtain rfl : J26 = J32 := eJ32.symm
    obtain rfl : R = R32 := eR32.symm
    replace hv := fnW hv hf32
    have sm : Sm C ms_X1_doWork (I, J, R) (I32, J26, R) := sm.tr sc32 rfl
    refine lv_iload hx hb dX1_doWork_126 (lv_at hl 0 rfl) ?_
    exact ret (0) _ _ _ _ _ _ _ dX1_doWork_128 hH (Rg_01 (Rg_w (Rg_c (x := 0) (a := (0)) (b := (0)) (by decide)) (by decide))) ⟨⟨oI, oR, sm⟩, rfl, (Rg_w (Rg_c (x := 0) (a := (0)) (b := (0)) (by decide)) (by decide)), (hT.symm.trans hv)⟩
  · have r36 : Rg y4 (1) (1) := ⟨by rw [z5]; decide, by rw [z5]; decide⟩
    refine lv_lookup (tgt := 40) hx hb dX1_doWork_14 (by decide) (by rw [z5]; try rfl) (by decide) ?_
    replace hv := fnN hv (by omega)
    replace hv := fnP hv z5
    refine lv_aload_n hx hb dX1_doWork_40 rfl (lv_at hl 1 rfl) ?_
    refine lv_aload_n hx hb dX1_doWork_41 rfl (lv_at hl 0 rfl) ?_
    refine lv_aload_n hx hb dX1_doWork_42 rfl (lv_at hl 2 rfl) ?_
    refine lv_iload_n hx hb dX1_doWork_43 rfl (lv_at hl 3 rfl) ?_
    refine lv_aload_n hx hb dX1_doWork_44 rfl (lv_at hl 0 rfl) ?_
    refine gf_5_5 hx hb hts hown hH mb3 kb3 rfl kf_X1_138 dX1_doWork_45 ?_
    refine lv_topi (fun y37 ey37 => ?_)
    have ry37 : Rg y37 (-1) (2) := by rw [ey37]; exact rf_5_5 oI mb3 kb3
    replace hv := fnS hv ey37
    have r38 : Rg y37 (0) (2) := ⟨by rw [ey37]; exact hXM _ mb3 kb3 (by rw [← ey4]; have a1 := r36.1; omega), ry37.2⟩
    refine lv_iadd hx hb dX1_doWork_48 ?_
    refine lv_topi (fun y39 ey39 => ?_)
    replace hv := fnS hv ey39
    obtain ⟨ty39, ry39⟩ := Rg_addx (a' := (0)) (b' := (59)) (rfl : x2.toInt = _) (rfl : y37.toInt = _) h2 r38 (by decide)
    rw [← ey39] at ty39 ry39
    refine ld_49 hx hb hH m1 k1 (Rg_in ry39 (by decide)) dX1_doWork_49 ?_
    refine lv_topl (fun w40 ew40 => ?_)
    replace hv := fnS hv ew40
    refine ca_X1_141 hx hb hml hown hts hH (c_X1_giveIfOf oI oR m0 k0 mb3 kb3) hl.1 m0 k0 rfl (by decide) (Nat.le_of_ble_eq_true rfl) ⟨Nat.zero_le _, Nat.zero_le _⟩ dX1_doWork_50 (fun y41 I41 J41 R41 H locs hp hH => ?_)
    obtain ⟨⟨-, -, sc41⟩, eI41, eR41, ry41, hf41⟩ := hp
    obtain rfl : I = I41 := eI41.symm
    obtain rfl : R = R41 := eR41.symm
    replace hv := fnC hv hf41
    have sm : Sm C ms_X1_doWork (I, J, R) (I, J41, R) := sm.tr sc41 rfl
    refine lv_istore (lv' := [(4, .int y41), (3, .ref b3), (0, .ref a0), (1, .ref a1), (2, .int x2)]) hx hb dX1_doWork_53 hl (by decide) rfl (fun ls hl => ?_)
    refine lv_goto (tgt := 112) hx hb dX1_doWork_55 (by decide) ?_
    refine lv_iload hx hb dX1_doWork_112 (lv_at hl 0 rfl) ?_
    refine lv_if_ne (tgt := 126) hx hb dX1_doWork_114 (by decide) (fun q42 => ?_) (fun q42 => ?_)
    · replace hv := fnN hv q42
      have l43 := Rg_ne q42
      have r44 : Rg y41 (1) (1) := Rg_nelo ry41 (Rg_ne q42) (Rg_c (x := 0) (a := (0)) (b := (0)) (by decide)) (by decide)
      refine lv_iload hx hb dX1_doWork_126 (lv_at hl 0 rfl) ?_
      exact ret (y41) _ _ _ _ _ _ _ dX1_doWork_128 hH (Rg_01 (Rg_w r44 (by decide))) ⟨⟨oI, oR, sm⟩, rfl, (Rg_w r44 (by decide)), (hT.symm.trans hv)⟩
    replace hv := fnP hv q42
    have l45 := congrArg Int32.toInt q42
    have r46 : Rg y41 (0) (0) := Rg_both ry41 (Rg_eqv q42 (Rg_c (x := 0) (a := (0)) (b := (0)) (by decide))) (by decide)
    refine lv_aload_n hx hb dX1_doWork_117 rfl (lv_at hl 2 rfl) ?_
    obtain ⟨b47, mb47, vb47, kb47⟩ := rf_1_3 oR m0 k0
    replace hv := fnR hv vb47
    refine gf_1_3 vb47 hx hb hts hown hH m0 k0 rfl kf_X1_51 dX1_doWork_118 ?_
    refine lv_iconst (v := 2) hx hb dX1_doWork_121 (by decide) ?_
    refine lv_iconst (v := (-1)) hx hb dX1_doWork_122 (by decide) ?_
    refine ca_X1_112 hx hb hml hown hts hH (c_X4_noteFailure oI oR mb47 kb47) hl.1 mb47 kb47 rfl (by decide) (Nat.le_of_ble_eq_true rfl) ⟨Nat.zero_le _, Nat.zero_le _⟩ dX1_doWork_123 (fun I48 J48 R48 H locs hp hH => ?_)
    obtain ⟨⟨oI, -, sc48⟩, eJ48, eR48, hf48⟩ := hp
    obtain rfl : J41 = J48 := eJ48.symm
    obtain rfl : R = R48 := eR48.symm
    replace hv := fnW hv hf48
    have sm : Sm C ms_X1_doWork (I, J, R) (I48, J41, R) := sm.tr sc48 rfl
    refine lv_iload hx hb dX1_doWork_126 (lv_at hl 0 rfl) ?_
    exact ret (y41) _ _ _ _ _ _ _ dX1_doWork_128 hH (Rg_01 (Rg_w r46 (by decide))) ⟨⟨oI, oR, sm⟩, rfl, (Rg_w r46 (by decide)), (hT.symm.trans hv)⟩
  · have r49 : Rg y4 (2) (2) := ⟨by rw [z5]; decide, by rw [z5]; decide⟩
    refine lv_lookup (tgt := 58) hx hb dX1_doWork_14 (by decide) (by rw [z5]; try rfl) (by decide) ?_
    replace hv := fnN hv (by omega)
    replace hv := fnN hv (by omega)
    replace hv := fnP hv z5
    refine lv_aload_n hx hb dX1_doWork_58 rfl (lv_at hl 1 rfl) ?_
    refine lv_aload_n hx hb dX1_doWork_59 rfl (lv_at hl 0 rfl) ?_
    refine lv_aload_n hx hb dX1_doWork_60 rfl (lv_at hl 2 rfl) ?_
    refine lv_iload_n hx hb dX1_doWork_61 rfl (lv_at hl 3 rfl) ?_
    refine lv_aload_n hx hb dX1_doWork_62 rfl (lv_at hl 0 rfl) ?_
    refine gf_5_5 hx hb hts hown hH mb3 kb3 rfl kf_X1_138 dX1_doWork_63 ?_
    refine lv_topi (fun y50 ey50 => ?_)
    have ry50 : Rg y50 (-1) (2) := by rw [ey50]; exact rf_5_5 oI mb3 kb3
    replace hv := fnS hv ey50
    have r51 : Rg y50 (0) (2) := ⟨by rw [ey50]; exact hXM _ mb3 kb3 (by rw [← ey4]; have a1 := r49.1; omega), ry50.2⟩
    refine lv_iadd hx hb dX1_doWork_66 ?_
    refine lv_topi (fun y52 ey52 => ?_)
    replace hv := fnS hv ey52
    obtain ⟨ty52, ry52⟩ := Rg_addx (a' := (0)) (b' := (59)) (rfl : x2.toInt = _) (rfl : y50.toInt = _) h2 r51 (by decide)
    rw [← ey52] at ty52 ry52
    refine ca_X1_145 hx hb hml hown hts hH (c_X1_writeField oI oR m0 k0 mb3 kb3 m1 k1 ry52) hl.1 m0 k0 rfl (by decide) (Nat.le_of_ble_eq_true rfl) ⟨Nat.zero_le _, Nat.zero_le _⟩ dX1_doWork_67 (fun y53 I53 J53 R53 H locs hp hH => ?_)
    obtain ⟨⟨-, -, sc53⟩, eI53, eR53, ry53, hf53⟩ := hp
    obtain rfl : I = I53 := eI53.symm
    obtain rfl : R = R53 := eR53.symm
    replace hv := fnC hv hf53
    have sm : Sm C ms_X1_doWork (I, J, R) (I, J53, R) := sm.tr sc53 rfl
    refine lv_istore (lv' := [(4, .int y53), (3, .ref b3), (0, .ref a0), (1, .ref a1), (2, .int x2)]) hx hb dX1_doWork_70 hl (by decide) rfl (fun ls hl => ?_)
    refine lv_goto (tgt := 112) hx hb dX1_doWork_72 (by decide) ?_
    refine lv_iload hx hb dX1_doWork_112 (lv_at hl 0 rfl) ?_
    refine lv_if_ne (tgt := 126) hx hb dX1_doWork_114 (by decide) (fun q54 => ?_) (fun q54 => ?_)
    · replace hv := fnN hv q54
      have l55 := Rg_ne q54
      have r56 : Rg y53 (1) (1) := Rg_nelo ry53 (Rg_ne q54) (Rg_c (x := 0) (a := (0)) (b := (0)) (by decide)) (by decide)
      refine lv_iload hx hb dX1_doWork_126 (lv_at hl 0 rfl) ?_
      exact ret (y53) _ _ _ _ _ _ _ dX1_doWork_128 hH (Rg_01 (Rg_w r56 (by decide))) ⟨⟨oI, oR, sm⟩, rfl, (Rg_w r56 (by decide)), (hT.symm.trans hv)⟩
    replace hv := fnP hv q54
    have l57 := congrArg Int32.toInt q54
    have r58 : Rg y53 (0) (0) := Rg_both ry53 (Rg_eqv q54 (Rg_c (x := 0) (a := (0)) (b := (0)) (by decide))) (by decide)
    refine lv_aload_n hx hb dX1_doWork_117 rfl (lv_at hl 2 rfl) ?_
    obtain ⟨b59, mb59, vb59, kb59⟩ := rf_1_3 oR m0 k0
    replace hv := fnR hv vb59
    refine gf_1_3 vb59 hx hb hts hown hH m0 k0 rfl kf_X1_51 dX1_doWork_118 ?_
    refine lv_iconst (v := 2) hx hb dX1_doWork_121 (by decide) ?_
    refine lv_iconst (v := (-1)) hx hb dX1_doWork_122 (by decide) ?_
    refine ca_X1_112 hx hb hml hown hts hH (c_X4_noteFailure oI oR mb59 kb59) hl.1 mb59 kb59 rfl (by decide) (Nat.le_of_ble_eq_true rfl) ⟨Nat.zero_le _, Nat.zero_le _⟩ dX1_doWork_123 (fun I60 J60 R60 H locs hp hH => ?_)
    obtain ⟨⟨oI, -, sc60⟩, eJ60, eR60, hf60⟩ := hp
    obtain rfl : J53 = J60 := eJ60.symm
    obtain rfl : R = R60 := eR60.symm
    replace hv := fnW hv hf60
    have sm : Sm C ms_X1_doWork (I, J, R) (I60, J53, R) := sm.tr sc60 rfl
    refine lv_iload hx hb dX1_doWork_126 (lv_at hl 0 rfl) ?_
    exact ret (y53) _ _ _ _ _ _ _ dX1_doWork_128 hH (Rg_01 (Rg_w r58 (by decide))) ⟨⟨oI, oR, sm⟩, rfl, (Rg_w r58 (by decide)), (hT.symm.trans hv)⟩
noncomputable def B_X1_passBack_5 (a0 : Nat) (y1 : Int32) (k_5 : hI → hJ → hR → Int32 → (Int32 × hU)) (I_5 : hI) (J_5 : hJ) (R : hR) (x1_5 : Int32) : Int32 × hU :=
  (if x1_5 ≤ (0 : Int32) then ((1 : Int32), (I_5, J_5, R)) else nm ((R a0 0).getD 0) fun b5 => nm ((R a0 5).getD 0) fun b6 => nm ((R b6 (Int32.toNatClampNeg x1_5)).getD 0) fun b7 => nm (I_5 b7 1) fun y8 => nm (x1_5 - (1 : Int32)) fun y9 => nm ((R b6 (Int32.toNatClampNeg y9)).getD 0) fun b10 => nm (I_5 b10 1) fun y11 => nm (J_5 a0 10) fun w12 => nmU (F_X6_carry b5 y8 y11 w12 I_5 J_5 R) fun y13 I13 J13 _ => (if y13 = (0 : Int32) then nm ((R a0 3).getD 0) fun b20 => nm (I13 b5 11) fun y21 => nmW (F_X4_noteFailure b20 (3 : Int32) y21 I13 J13 R) fun I22 _ _ => ((0 : Int32), (I22, J13, R)) else nm (J13 b5 10) fun w16 => nm (u2 J13 a0 10 w16) fun J17 => nm (x1_5 + (-1 : Int32)) fun y18 => k_5 I13 J17 R y18))
noncomputable def F_X1_passBack_5 (a0 : Nat) (y1 : Int32) : Nat → hI → hJ → hR → Int32 → (Int32 × hU) := fun n => Nat.rec (motive := fun _ => hI → hJ → hR → Int32 → (Int32 × hU)) (fun _ _ _ _ => default) (fun _ k => B_X1_passBack_5 a0 y1 k) n
theorem F_X1_passBack_5_s {a0 : Nat} {y1 : Int32} {n : Nat} {I_5 : hI} {J_5 : hJ} {R : hR} {x1_5 : Int32} : F_X1_passBack_5 a0 y1 (n + 1)  I_5 J_5 R x1_5 = B_X1_passBack_5 a0 y1 (F_X1_passBack_5 a0 y1 n)  I_5 J_5 R x1_5 := rfl
noncomputable def F_X1_passBack (a0 : Nat) (I : hI) (J : hJ) (R : hR) : Int32 × hU :=
  nm (I a0 7) fun y1 => F_X1_passBack_5 a0 y1 ((y1.toInt + 1).toNat + 1) I J R y1
def ms_X1_passBack : List Nat := [74, 257, 258, 394, 395]
set_option maxHeartbeats 4000000 in
set_option maxRecDepth 100000 in
theorem c_X1_passBack {l : Launch} {D : va_G} {cy : Nat → ClassId} {L : List Nat} {C : Nat → Nat} {b0 : Nat} {I : hI} {J : hJ} {R : hR} {a0 : Nat} (oI : OkI L C I) (oR : OkR L C R) (m0 : a0 ∈ L) (k0 : C a0 = 1) : CI l yX1_passBack cX1_passBack 2 .boolean 3 D cy L C b0 [.ref a0] (I, J, R) (fun r v => Ps L C ms_X1_passBack (I, J, R) v ∧ v.2.2 = R ∧ Rg r (0) (1) ∧ F_X1_passBack a0 I J R = (r, v)) := by
  refine CI.mkZ (plainFor_of_name (by decide)) (Nat.le_of_ble_eq_true rfl) ?_
  intro p e s m args below meth c ls Q hF ret hH hl
  obtain ⟨hx, hb, -, hml, hown, hts, -⟩ := hF
  have hl : lv_has ls 2 [(0, .ref a0)] := hl
  have hH : Hp D cy L C b0 s s.heap I J R s.heap [] := hH
  have sm : Sm C ms_X1_passBack (I, J, R) (I, J, R) := Sm.rf
  obtain ⟨TT0, hT⟩ : ∃ TT0, TT0 = F_X1_passBack a0 I J R := ⟨_, rfl⟩
  have hv := hT
  unfold F_X1_passBack at hv
  refine lv_aload_n hx hb dX1_passBack_0 rfl (lv_at hl 0 rfl) ?_
  refine gf_1_7 hx hb hts hown hH m0 k0 rfl kf_X1_25 dX1_passBack_1 ?_
  refine lv_topi (fun y1 ey1 => ?_)
  have ry1 : Rg y1 (0) (10) := by rw [ey1]; exact rf_1_7 oI m0 k0
  replace hv := fnS hv ey1
  refine lv_istore_n (lv' := [(1, .int y1), (0, .ref a0)]) hx hb dX1_passBack_4 rfl hl (by decide) rfl (fun ls hl => ?_)
  have L_5 : ∀ (n_5 : Nat) (I_5 : hI) (J_5 : hJ) (H : Heap) (locs : List Loc) (ls : Array Slot) (x1_5 : Int32), (x1_5.toInt + 1).toNat < n_5 → Hp D cy L C b0 s s.heap I_5 J_5 R H locs → TT0 = F_X1_passBack_5 a0 y1 n_5 I_5 J_5 R x1_5 → OkI L C I_5 → Sm C ms_X1_passBack (I, J, R) (I_5, J_5, R) → Rg x1_5 (0) (10) → lv_has ls 2 [(0, .ref a0), (1, .int x1_5)] → W p l e (rmD 3) s m args below meth c H locs 0 0 Q (F0 m 5 ls []) := by
    intro n_5
    induction n_5 with
    | zero => intro I_5 J_5 H locs ls x1_5 h; exact absurd h (Nat.not_lt_zero _)
    | succ n_5 ih_5 =>
      intro I_5 J_5 H locs ls x1_5 hn_5 hH hv oI sm r1_5 hl
      replace hv := hv.trans F_X1_passBack_5_s
      unfold B_X1_passBack_5 at hv
      refine lv_iload_n hx hb dX1_passBack_5 rfl (lv_at hl 1 rfl) ?_
      refine lv_if_le (tgt := 77) hx hb dX1_passBack_6 (by decide) (fun q2 => ?_) (fun q2 => ?_)
      · replace hv := fnP hv q2
        have r3 : Rg x1_5 (0) (0) := Rg_ule r1_5 (Rg_le q2) (Rg_c (x := 0) (a := (0)) (b := (0)) (by decide)) (by decide)
        refine lv_iconst (v := 1) hx hb dX1_passBack_77 (by decide) ?_
        exact ret (1) _ _ _ _ _ _ _ dX1_passBack_78 hH (Rg_01 (Rg_w (Rg_c (x := 1) (a := (1)) (b := (1)) (by decide)) (by decide))) ⟨⟨oI, oR, sm⟩, rfl, (Rg_w (Rg_c (x := 1) (a := (1)) (b := (1)) (by decide)) (by decide)), (hT.symm.trans hv)⟩
      replace hv := fnN hv q2
      have r4 : Rg x1_5 (1) (10) := Rg_llt r1_5 (Rg_nle q2) (Rg_c (x := 0) (a := (0)) (b := (0)) (by decide)) (by decide)
      refine lv_aload_n hx hb dX1_passBack_9 rfl (lv_at hl 0 rfl) ?_
      obtain ⟨b5, mb5, vb5, kb5⟩ := rf_1_0 oR m0 k0
      replace hv := fnR hv vb5
      refine gf_1_0 vb5 hx hb hts hown hH m0 k0 rfl kf_X1_39 dX1_passBack_10 ?_
      refine lv_aload_n hx hb dX1_passBack_13 rfl (lv_at hl 0 rfl) ?_
      obtain ⟨b6, mb6, vb6, kb6⟩ := rf_1_5 oR m0 k0
      replace hv := fnR hv vb6
      refine gf_1_5 vb6 hx hb hts hown hH m0 k0 rfl kf_X1_17 dX1_passBack_14 ?_
      refine lv_iload_n hx hb dX1_passBack_17 rfl (lv_at hl 1 rfl) ?_
      obtain ⟨b7, mb7, vb7, kb7⟩ := rr_51 oR mb6 kb6 (Rg_in r4 (by decide))
      replace hv := fnR hv vb7
      refine ld_51 hx hb hH mb6 kb6 (Rg_in r4 (by decide)) vb7 dX1_passBack_18 ?_
      refine gf_5_1 hx hb hts hown hH mb7 kb7 rfl kf_X1_156 dX1_passBack_19 ?_
      refine lv_topi (fun y8 ey8 => ?_)
      have ry8 : Rg y8 (0) (6) := by rw [ey8]; exact rf_5_1 oI mb7 kb7
      replace hv := fnS hv ey8
      refine lv_aload_n hx hb dX1_passBack_22 rfl (lv_at hl 0 rfl) ?_
      refine gf_1_5 vb6 hx hb hts hown hH m0 k0 rfl kf_X1_17 dX1_passBack_23 ?_
      refine lv_iload_n hx hb dX1_passBack_26 rfl (lv_at hl 1 rfl) ?_
      refine lv_iconst (v := 1) hx hb dX1_passBack_27 (by decide) ?_
      refine lv_isub hx hb dX1_passBack_28 ?_
      refine lv_topi (fun y9 ey9 => ?_)
      replace hv := fnS hv ey9
      obtain ⟨ty9, ry9⟩ := Rg_subx (a' := (0)) (b' := (9)) (rfl : x1_5.toInt = _) (by decide : Int32.toInt 1 = 1) r4 (Rg_c (x := 1) (a := (1)) (b := (1)) (by decide)) (by decide)
      rw [← ey9] at ty9 ry9
      obtain ⟨b10, mb10, vb10, kb10⟩ := rr_51 oR mb6 kb6 (Rg_in ry9 (by decide))
      replace hv := fnR hv vb10
      refine ld_51 hx hb hH mb6 kb6 (Rg_in ry9 (by decide)) vb10 dX1_passBack_29 ?_
      refine gf_5_1 hx hb hts hown hH mb10 kb10 rfl kf_X1_156 dX1_passBack_30 ?_
      refine lv_topi (fun y11 ey11 => ?_)
      have ry11 : Rg y11 (0) (6) := by rw [ey11]; exact rf_5_1 oI mb10 kb10
      replace hv := fnS hv ey11
      refine lv_aload_n hx hb dX1_passBack_33 rfl (lv_at hl 0 rfl) ?_
      refine gf_1_10 hx hb hts hown hH m0 k0 rfl kf_X1_35 dX1_passBack_34 ?_
      refine lv_topl (fun w12 ew12 => ?_)
      replace hv := fnS hv ew12
      refine ca_X1_130 hx hb hml hown hts hH (c_X6_carry oI oR mb5 kb5 ry8 ry11) hl.1 mb5 kb5 rfl (by decide) (Nat.le_of_ble_eq_true rfl) ⟨Nat.zero_le _, Nat.zero_le _⟩ dX1_passBack_37 (fun y13 I13 J13 R13 H locs hp hH => ?_)
      obtain ⟨⟨oI, -, sc13⟩, eR13, ry13, hf13⟩ := hp
      obtain rfl : R = R13 := eR13.symm
      replace hv := fnC hv hf13
      have sm : Sm C ms_X1_passBack (I, J, R) (I13, J13, R) := sm.tr sc13 rfl
      refine lv_if_ne (tgt := 60) hx hb dX1_passBack_40 (by decide) (fun q14 => ?_) (fun q14 => ?_)
      · replace hv := fnN hv q14
        have r15 : Rg y13 (1) (1) := Rg_nelo ry13 (Rg_ne q14) (Rg_c (x := 0) (a := (0)) (b := (0)) (by decide)) (by decide)
        refine lv_aload_n hx hb dX1_passBack_60 rfl (lv_at hl 0 rfl) ?_
        refine lv_aload_n hx hb dX1_passBack_61 rfl (lv_at hl 0 rfl) ?_
        refine gf_1_0 vb5 hx hb hts hown hH m0 k0 rfl kf_X1_39 dX1_passBack_62 ?_
        refine gf_6_10 hx hb hts hown hH mb5 kb5 rfl kf_X1_134 dX1_passBack_65 ?_
        refine lv_topl (fun w16 ew16 => ?_)
        replace hv := fnS hv ew16
        refine pf_1_10 hx hb hts hown hH m0 k0 rfl kf_X1_35 dX1_passBack_68 (fun J17 H locs eJ17 hH => ?_)
        replace hv := fnS hv eJ17
        have sm : Sm C ms_X1_passBack (I, J, R) (I13, J17, R) := by rw [eJ17]; exact sm.stJ k0 (mC_obj (by decide) rfl)
        obtain ⟨y18, ey18⟩ : ∃ y : Int32, y = x1_5 + (-1) := ⟨_, rfl⟩
        replace hv := fnS hv ey18
        obtain ⟨ty18, ry18⟩ := Rg_addx (a' := (0)) (b' := (9)) (rfl : x1_5.toInt = _) (by decide : Int32.toInt (-1) = -1) r4 (Rg_c (x := (-1)) (a := (-1)) (b := (-1)) (by decide)) (by decide)
        rw [← ey18] at ty18 ry18
        refine lv_iinc (v := y18) (lv' := [(1, .int y18), (0, .ref a0)]) hx hb dX1_passBack_71 hl (k := 1) rfl (by rw [ey18]; rfl) (by decide) rfl (fun ls hl => ?_)
        refine lv_goto (tgt := 5) hx hb dX1_passBack_74 (by decide) ?_
        exact ih_5 I13 J17 _ _ _ y18 (lp_dn hn_5 ty18 r4 (by decide)) hH hv oI sm (Rg_w ry18 (by decide)) (lv_sub hl [1, 0] rfl)
      replace hv := fnP hv q14
      have r19 : Rg y13 (0) (0) := Rg_both ry13 (Rg_eqv q14 (Rg_c (x := 0) (a := (0)) (b := (0)) (by decide))) (by decide)
      refine lv_aload_n hx hb dX1_passBack_43 rfl (lv_at hl 0 rfl) ?_
      obtain ⟨b20, mb20, vb20, kb20⟩ := rf_1_3 oR m0 k0
      replace hv := fnR hv vb20
      refine gf_1_3 vb20 hx hb hts hown hH m0 k0 rfl kf_X1_51 dX1_passBack_44 ?_
      refine lv_iconst (v := 3) hx hb dX1_passBack_47 (by decide) ?_
      refine lv_aload_n hx hb dX1_passBack_48 rfl (lv_at hl 0 rfl) ?_
      refine gf_1_0 vb5 hx hb hts hown hH m0 k0 rfl kf_X1_39 dX1_passBack_49 ?_
      refine gf_6_11 hx hb hts hown hH mb5 kb5 rfl kf_X1_120 dX1_passBack_52 ?_
      refine lv_topi (fun y21 ey21 => ?_)
      replace hv := fnS hv ey21
      refine ca_X1_112 hx hb hml hown hts hH (c_X4_noteFailure oI oR mb20 kb20) hl.1 mb20 kb20 rfl (by decide) (Nat.le_of_ble_eq_true rfl) ⟨Nat.zero_le _, Nat.zero_le _⟩ dX1_passBack_55 (fun I22 J22 R22 H locs hp hH => ?_)
      obtain ⟨⟨oI, -, sc22⟩, eJ22, eR22, hf22⟩ := hp
      obtain rfl : J13 = J22 := eJ22.symm
      obtain rfl : R = R22 := eR22.symm
      replace hv := fnW hv hf22
      have sm : Sm C ms_X1_passBack (I, J, R) (I22, J13, R) := sm.tr sc22 rfl
      refine lv_iconst (v := 0) hx hb dX1_passBack_58 (by decide) ?_
      exact ret (0) _ _ _ _ _ _ _ dX1_passBack_59 hH (Rg_01 (Rg_w (Rg_c (x := 0) (a := (0)) (b := (0)) (by decide)) (by decide))) ⟨⟨oI, oR, sm⟩, rfl, (Rg_w (Rg_c (x := 0) (a := (0)) (b := (0)) (by decide)) (by decide)), (hT.symm.trans hv)⟩
  exact L_5 ((y1.toInt + 1).toNat + 1) I J _ _ _ y1 (Nat.lt_succ_self _) hH hv oI sm ry1 (lv_sub hl [1, 0] rfl)
noncomputable def F_X1_perform (a0 : Nat) (a1 : Nat) (x2 : Int32) (I : hI) (J : hJ) (R : hR) : Int32 × hU :=
  nmU (F_X1_takeHand a0 I J R) fun y1 I1 J1 _ => (if y1 = (0 : Int32) then nm ((R a0 3).getD 0) fun b6 => nm (I1 b6 4) fun y7 => nm (y7 + (1 : Int32)) fun y8 => nm (u2 I1 b6 4 y8) fun I9 => ((0 : Int32), (I9, J1, R)) else nmU (F_X1_passIn a0 I1 J1 R) fun y13 I13 J13 R13 => (if y13 = (0 : Int32) then nm ((R13 a0 3).getD 0) fun b18 => nm (I13 b18 4) fun y19 => nm (y19 + (1 : Int32)) fun y20 => nm (u2 I13 b18 4 y20) fun I21 => ((0 : Int32), (I21, J13, R13)) else nmU (F_X1_doWork a0 a1 x2 I13 J13 R13) fun y25 I25 J25 _ => (if y25 = (0 : Int32) then nm ((R13 a0 3).getD 0) fun b30 => nm (I25 b30 4) fun y31 => nm (y31 + (1 : Int32)) fun y32 => nm (u2 I25 b30 4 y32) fun I33 => ((0 : Int32), (I33, J25, R13)) else nmU (F_X1_passBack a0 I25 J25 R13) fun y37 I37 J37 _ => (if y37 = (0 : Int32) then nm ((R13 a0 3).getD 0) fun b42 => nm (I37 b42 4) fun y43 => nm (y43 + (1 : Int32)) fun y44 => nm (u2 I37 b42 4 y44) fun I45 => ((0 : Int32), (I45, J37, R13)) else nm ((R13 a0 3).getD 0) fun b50 => nm (J37 a0 10) fun w51 => nm (u2 J37 b50 0 w51) fun J52 => nm (I37 b50 3) fun y53 => nm (y53 + (1 : Int32)) fun y54 => nm (u2 I37 b50 3 y54) fun I55 => ((1 : Int32), (I55, J52, R13))))))
def ms_X1_perform : List Nat := [72, 73, 74, 256, 257, 258, 259, 260, 394, 395, 3136, 3392]
set_option maxHeartbeats 4000000 in
set_option maxRecDepth 100000 in
theorem c_X1_perform {l : Launch} {D : va_G} {cy : Nat → ClassId} {L : List Nat} {C : Nat → Nat} {b0 : Nat} {I : hI} {J : hJ} {R : hR} {a0 : Nat} {a1 : Nat} {x2 : Int32} (oI : OkI L C I) (oR : OkR L C R) (m0 : a0 ∈ L) (k0 : C a0 = 1) (m1 : a1 ∈ L) (k1 : C a1 = 49) (h2 : Rg x2 (0) (57)) (hXM : XM L C I) : CI l yX1_perform cX1_perform 4 .boolean 5 D cy L C b0 [.ref a0, .ref a1, .int x2] (I, J, R) (fun r v => Ps L C ms_X1_perform (I, J, R) v ∧ Rg r (0) (1) ∧ F_X1_perform a0 a1 x2 I J R = (r, v)) := by
  refine CI.mkZ (plainFor_of_name (by decide)) (Nat.le_of_ble_eq_true rfl) ?_
  intro p e s m args below meth c ls Q hF ret hH hl
  obtain ⟨hx, hb, -, hml, hown, hts, -⟩ := hF
  have hl : lv_has ls 4 [(0, .ref a0), (1, .ref a1), (2, .int x2)] := hl
  have hH : Hp D cy L C b0 s s.heap I J R s.heap [] := hH
  have sm : Sm C ms_X1_perform (I, J, R) (I, J, R) := Sm.rf
  obtain ⟨TT0, hT⟩ : ∃ TT0, TT0 = F_X1_perform a0 a1 x2 I J R := ⟨_, rfl⟩
  have hv := hT
  unfold F_X1_perform at hv
  refine lv_aload_n hx hb dX1_perform_0 rfl (lv_at hl 0 rfl) ?_
  refine ca_X1_77 hx hb hml hown hts hH (c_X1_takeHand oI oR m0 k0) hl.1 m0 k0 rfl (by decide) (Nat.le_of_ble_eq_true rfl) ⟨Nat.zero_le _, Nat.zero_le _⟩ dX1_perform_1 (fun y1 I1 J1 R1 H locs hp hH => ?_)
  obtain ⟨⟨oI, -, sc1⟩, eR1, ry1, hf1⟩ := hp
  obtain rfl : R = R1 := eR1.symm
  replace hv := fnC hv hf1
  have sm : Sm C ms_X1_perform (I, J, R) (I1, J1, R) := sm.tr sc1 rfl
  refine lv_if_eq (tgt := 34) hx hb dX1_perform_4 (by decide) (fun q2 => ?_) (fun q2 => ?_)
  · replace hv := fnP hv q2
    have l3 := congrArg Int32.toInt q2
    have r4 : Rg y1 (0) (0) := Rg_both ry1 (Rg_eqv q2 (Rg_c (x := 0) (a := (0)) (b := (0)) (by decide))) (by decide)
    refine lv_iconst (v := 0) hx hb dX1_perform_34 (by decide) ?_
    refine lv_istore_n (lv' := [(3, .int 0), (0, .ref a0), (1, .ref a1), (2, .int x2)]) hx hb dX1_perform_35 rfl hl (by decide) rfl (fun ls hl => ?_)
    refine lv_iload_n hx hb dX1_perform_36 rfl (lv_at hl 0 rfl) ?_
    refine lv_if_eq (tgt := 67) hx hb dX1_perform_37 (by decide) (fun q5 => ?_) (fun q5 => ?_)
    rotate_left
    · exact absurd rfl q5
    refine lv_aload_n hx hb dX1_perform_67 rfl (lv_at hl 1 rfl) ?_
    obtain ⟨b6, mb6, vb6, kb6⟩ := rf_1_3 oR m0 k0
    replace hv := fnR hv vb6
    refine gf_1_3 vb6 hx hb hts hown hH m0 k0 rfl kf_X1_51 dX1_perform_68 ?_
    refine lv_dup hx hb dX1_perform_71 rfl ?_
    refine gf_4_4 hx hb hts hown hH mb6 kb6 rfl kf_X1_99 dX1_perform_72 ?_
    refine lv_topi (fun y7 ey7 => ?_)
    replace hv := fnS hv ey7
    refine lv_iconst (v := 1) hx hb dX1_perform_75 (by decide) ?_
    refine lv_iadd hx hb dX1_perform_76 ?_
    refine lv_topi (fun y8 ey8 => ?_)
    replace hv := fnS hv ey8
    refine pf_4_4 hx hb hts hown hH mb6 kb6 rfl kf_X1_99 dX1_perform_77 (fun I9 H locs eI9 hH => ?_)
    replace hv := fnS hv eI9
    have oI : OkI L C I9 := by rw [eI9]; exact wf_4_4 oI kb6 (Rg_any y8)
    have sm : Sm C ms_X1_perform (I, J, R) (I9, J1, R) := by rw [eI9]; exact sm.stI kb6 (mC_obj (by decide) rfl)
    have f10 : y8 = I9 b6 4 := by rw [eI9, u2_at]
    refine lv_iload_n hx hb dX1_perform_80 rfl (lv_at hl 0 rfl) ?_
    exact ret (0) _ _ _ _ _ _ _ dX1_perform_81 hH (Rg_01 (Rg_w (Rg_c (x := 0) (a := (0)) (b := (0)) (by decide)) (by decide))) ⟨⟨oI, oR, sm⟩, (Rg_w (Rg_c (x := 0) (a := (0)) (b := (0)) (by decide)) (by decide)), (hT.symm.trans hv)⟩
  replace hv := fnN hv q2
  have l11 := Rg_ne q2
  have r12 : Rg y1 (1) (1) := Rg_nelo ry1 (Rg_ne q2) (Rg_c (x := 0) (a := (0)) (b := (0)) (by decide)) (by decide)
  refine lv_aload_n hx hb dX1_perform_7 rfl (lv_at hl 0 rfl) ?_
  refine ca_X1_81 hx hb hml hown hts hH (c_X1_passIn oI oR m0 k0) hl.1 m0 k0 rfl (by decide) (Nat.le_of_ble_eq_true rfl) ⟨Nat.zero_le _, Nat.zero_le _⟩ dX1_perform_8 (fun y13 I13 J13 R13 H locs hp hH => ?_)
  obtain ⟨⟨oI, oR, sc13⟩, ry13, hf13⟩ := hp
  replace hv := fnC hv hf13
  have sm : Sm C ms_X1_perform (I, J, R) (I13, J13, R13) := sm.tr sc13 rfl
  refine lv_if_eq (tgt := 34) hx hb dX1_perform_11 (by decide) (fun q14 => ?_) (fun q14 => ?_)
  · replace hv := fnP hv q14
    have l15 := congrArg Int32.toInt q14
    have r16 : Rg y13 (0) (0) := Rg_both ry13 (Rg_eqv q14 (Rg_c (x := 0) (a := (0)) (b := (0)) (by decide))) (by decide)
    refine lv_iconst (v := 0) hx hb dX1_perform_34 (by decide) ?_
    refine lv_istore_n (lv' := [(3, .int 0), (0, .ref a0), (1, .ref a1), (2, .int x2)]) hx hb dX1_perform_35 rfl hl (by decide) rfl (fun ls hl => ?_)
    refine lv_iload_n hx hb dX1_perform_36 rfl (lv_at hl 0 rfl) ?_
    refine lv_if_eq (tgt := 67) hx hb dX1_perform_37 (by decide) (fun q17 => ?_) (fun q17 => ?_)
    rotate_left
    · exact absurd rfl q17
    refine lv_aload_n hx hb dX1_perform_67 rfl (lv_at hl 1 rfl) ?_
    obtain ⟨b18, mb18, vb18, kb18⟩ := rf_1_3 oR m0 k0
    replace hv := fnR hv vb18
    refine gf_1_3 vb18 hx hb hts hown hH m0 k0 rfl kf_X1_51 dX1_perform_68 ?_
    refine lv_dup hx hb dX1_perform_71 rfl ?_
    refine gf_4_4 hx hb hts hown hH mb18 kb18 rfl kf_X1_99 dX1_perform_72 ?_
    refine lv_topi (fun y19 ey19 => ?_)
    replace hv := fnS hv ey19
    refine lv_iconst (v := 1) hx hb dX1_perform_75 (by decide) ?_
    refine lv_iadd hx hb dX1_perform_76 ?_
    refine lv_topi (fun y20 ey20 => ?_)
    replace hv := fnS hv ey20
    refine pf_4_4 hx hb hts hown hH mb18 kb18 rfl kf_X1_99 dX1_perform_77 (fun I21 H locs eI21 hH => ?_)
    replace hv := fnS hv eI21
    have oI : OkI L C I21 := by rw [eI21]; exact wf_4_4 oI kb18 (Rg_any y20)
    have sm : Sm C ms_X1_perform (I, J, R) (I21, J13, R13) := by rw [eI21]; exact sm.stI kb18 (mC_obj (by decide) rfl)
    have f22 : y20 = I21 b18 4 := by rw [eI21, u2_at]
    refine lv_iload_n hx hb dX1_perform_80 rfl (lv_at hl 0 rfl) ?_
    exact ret (0) _ _ _ _ _ _ _ dX1_perform_81 hH (Rg_01 (Rg_w (Rg_c (x := 0) (a := (0)) (b := (0)) (by decide)) (by decide))) ⟨⟨oI, oR, sm⟩, (Rg_w (Rg_c (x := 0) (a := (0)) (b := (0)) (by decide)) (by decide)), (hT.symm.trans hv)⟩
  replace hv := fnN hv q14
  have l23 := Rg_ne q14
  have r24 : Rg y13 (1) (1) := Rg_nelo ry13 (Rg_ne q14) (Rg_c (x := 0) (a := (0)) (b := (0)) (by decide)) (by decide)
  refine lv_aload_n hx hb dX1_perform_14 rfl (lv_at hl 0 rfl) ?_
  refine lv_aload_n hx hb dX1_perform_15 rfl (lv_at hl 1 rfl) ?_
  refine lv_iload_n hx hb dX1_perform_16 rfl (lv_at hl 2 rfl) ?_
  refine ca_X1_84 hx hb hml hown hts hH (c_X1_doWork oI oR m0 k0 m1 k1 h2 (by exact XM.sm (u := (I, J, R)) (v := (I13, J13, R13)) hXM sm rfl rfl)) hl.1 m0 k0 rfl (by decide) (Nat.le_of_ble_eq_true rfl) ⟨Nat.zero_le _, Nat.zero_le _⟩ dX1_perform_17 (fun y25 I25 J25 R25 H locs hp hH => ?_)
  obtain ⟨⟨oI, -, sc25⟩, eR25, ry25, hf25⟩ := hp
  obtain rfl : R13 = R25 := eR25.symm
  replace hv := fnC hv hf25
  have sm : Sm C ms_X1_perform (I, J, R) (I25, J25, R13) := sm.tr sc25 rfl
  refine lv_if_eq (tgt := 34) hx hb dX1_perform_20 (by decide) (fun q26 => ?_) (fun q26 => ?_)
  · replace hv := fnP hv q26
    have l27 := congrArg Int32.toInt q26
    have r28 : Rg y25 (0) (0) := Rg_both ry25 (Rg_eqv q26 (Rg_c (x := 0) (a := (0)) (b := (0)) (by decide))) (by decide)
    refine lv_iconst (v := 0) hx hb dX1_perform_34 (by decide) ?_
    refine lv_istore_n (lv' := [(3, .int 0), (0, .ref a0), (1, .ref a1), (2, .int x2)]) hx hb dX1_perform_35 rfl hl (by decide) rfl (fun ls hl => ?_)
    refine lv_iload_n hx hb dX1_perform_36 rfl (lv_at hl 0 rfl) ?_
    refine lv_if_eq (tgt := 67) hx hb dX1_perform_37 (by decide) (fun q29 => ?_) (fun q29 => ?_)
    rotate_left
    · exact absurd rfl q29
    refine lv_aload_n hx hb dX1_perform_67 rfl (lv_at hl 1 rfl) ?_
    obtain ⟨b30, mb30, vb30, kb30⟩ := rf_1_3 oR m0 k0
    replace hv := fnR hv vb30
    refine gf_1_3 vb30 hx hb hts hown hH m0 k0 rfl kf_X1_51 dX1_perform_68 ?_
    refine lv_dup hx hb dX1_perform_71 rfl ?_
    refine gf_4_4 hx hb hts hown hH mb30 kb30 rfl kf_X1_99 dX1_perform_72 ?_
    refine lv_topi (fun y31 ey31 => ?_)
    replace hv := fnS hv ey31
    refine lv_iconst (v := 1) hx hb dX1_perform_75 (by decide) ?_
    refine lv_iadd hx hb dX1_perform_76 ?_
    refine lv_topi (fun y32 ey32 => ?_)
    replace hv := fnS hv ey32
    refine pf_4_4 hx hb hts hown hH mb30 kb30 rfl kf_X1_99 dX1_perform_77 (fun I33 H locs eI33 hH => ?_)
    replace hv := fnS hv eI33
    have oI : OkI L C I33 := by rw [eI33]; exact wf_4_4 oI kb30 (Rg_any y32)
    have sm : Sm C ms_X1_perform (I, J, R) (I33, J25, R13) := by rw [eI33]; exact sm.stI kb30 (mC_obj (by decide) rfl)
    have f34 : y32 = I33 b30 4 := by rw [eI33, u2_at]
    refine lv_iload_n hx hb dX1_perform_80 rfl (lv_at hl 0 rfl) ?_
    exact ret (0) _ _ _ _ _ _ _ dX1_perform_81 hH (Rg_01 (Rg_w (Rg_c (x := 0) (a := (0)) (b := (0)) (by decide)) (by decide))) ⟨⟨oI, oR, sm⟩, (Rg_w (Rg_c (x := 0) (a := (0)) (b := (0)) (by decide)) (by decide)), (hT.symm.trans hv)⟩
  replace hv := fnN hv q26
  have l35 := Rg_ne q26
  have r36 : Rg y25 (1) (1) := Rg_nelo ry25 (Rg_ne q26) (Rg_c (x := 0) (a := (0)) (b := (0)) (by decide)) (by decide)
  refine lv_aload_n hx hb dX1_perform_23 rfl (lv_at hl 0 rfl) ?_
  refine ca_X1_88 hx hb hml hown hts hH (c_X1_passBack oI oR m0 k0) hl.1 m0 k0 rfl (by decide) (Nat.le_of_ble_eq_true rfl) ⟨Nat.zero_le _, Nat.zero_le _⟩ dX1_perform_24 (fun y37 I37 J37 R37 H locs hp hH => ?_)
  obtain ⟨⟨oI, -, sc37⟩, eR37, ry37, hf37⟩ := hp
  obtain rfl : R13 = R37 := eR37.symm
  replace hv := fnC hv hf37
  have sm : Sm C ms_X1_perform (I, J, R) (I37, J37, R13) := sm.tr sc37 rfl
  refine lv_if_eq (tgt := 34) hx hb dX1_perform_27 (by decide) (fun q38 => ?_) (fun q38 => ?_)
  · replace hv := fnP hv q38
    have l39 := congrArg Int32.toInt q38
    have r40 : Rg y37 (0) (0) := Rg_both ry37 (Rg_eqv q38 (Rg_c (x := 0) (a := (0)) (b := (0)) (by decide))) (by decide)
    refine lv_iconst (v := 0) hx hb dX1_perform_34 (by decide) ?_
    refine lv_istore_n (lv' := [(3, .int 0), (0, .ref a0), (1, .ref a1), (2, .int x2)]) hx hb dX1_perform_35 rfl hl (by decide) rfl (fun ls hl => ?_)
    refine lv_iload_n hx hb dX1_perform_36 rfl (lv_at hl 0 rfl) ?_
    refine lv_if_eq (tgt := 67) hx hb dX1_perform_37 (by decide) (fun q41 => ?_) (fun q41 => ?_)
    rotate_left
    · exact absurd rfl q41
    refine lv_aload_n hx hb dX1_perform_67 rfl (lv_at hl 1 rfl) ?_
    obtain ⟨b42, mb42, vb42, kb42⟩ := rf_1_3 oR m0 k0
    replace hv := fnR hv vb42
    refine gf_1_3 vb42 hx hb hts hown hH m0 k0 rfl kf_X1_51 dX1_perform_68 ?_
    refine lv_dup hx hb dX1_perform_71 rfl ?_
    refine gf_4_4 hx hb hts hown hH mb42 kb42 rfl kf_X1_99 dX1_perform_72 ?_
    refine lv_topi (fun y43 ey43 => ?_)
    replace hv := fnS hv ey43
    refine lv_iconst (v := 1) hx hb dX1_perform_75 (by decide) ?_
    refine lv_iadd hx hb dX1_perform_76 ?_
    refine lv_topi (fun y44 ey44 => ?_)
    replace hv := fnS hv ey44
    refine pf_4_4 hx hb hts hown hH mb42 kb42 rfl kf_X1_99 dX1_perform_77 (fun I45 H locs eI45 hH => ?_)
    replace hv := fnS hv eI45
    have oI : OkI L C I45 := by rw [eI45]; exact wf_4_4 oI kb42 (Rg_any y44)
    have sm : Sm C ms_X1_perform (I, J, R) (I45, J37, R13) := by rw [eI45]; exact sm.stI kb42 (mC_obj (by decide) rfl)
    have f46 : y44 = I45 b42 4 := by rw [eI45, u2_at]
    refine lv_iload_n hx hb dX1_perform_80 rfl (lv_at hl 0 rfl) ?_
    exact ret (0) _ _ _ _ _ _ _ dX1_perform_81 hH (Rg_01 (Rg_w (Rg_c (x := 0) (a := (0)) (b := (0)) (by decide)) (by decide))) ⟨⟨oI, oR, sm⟩, (Rg_w (Rg_c (x := 0) (a := (0)) (b := (0)) (by decide)) (by decide)), (hT.symm.trans hv)⟩
  replace hv := fnN hv q38
  have l47 := Rg_ne q38
  have r48 : Rg y37 (1) (1) := Rg_nelo ry37 (Rg_ne q38) (Rg_c (x := 0) (a := (0)) (b := (0)) (by decide)) (by decide)
  refine lv_iconst (v := 1) hx hb dX1_perform_30 (by decide) ?_
  refine lv_goto (tgt := 35) hx hb dX1_perform_31 (by decide) ?_
  refine lv_istore_n (lv' := [(3, .int 1), (0, .ref a0), (1, .ref a1), (2, .int x2)]) hx hb dX1_perform_35 rfl hl (by decide) rfl (fun ls hl => ?_)
  refine lv_iload_n hx hb dX1_perform_36 rfl (lv_at hl 0 rfl) ?_
  refine lv_if_eq (tgt := 67) hx hb dX1_perform_37 (by decide) (fun q49 => ?_) (fun q49 => ?_)
  · exact absurd q49 (by decide)
  refine lv_aload_n hx hb dX1_perform_40 rfl (lv_at hl 1 rfl) ?_
  obtain ⟨b50, mb50, vb50, kb50⟩ := rf_1_3 oR m0 k0
  replace hv := fnR hv vb50
  refine gf_1_3 vb50 hx hb hts hown hH m0 k0 rfl kf_X1_51 dX1_perform_41 ?_
  refine lv_aload_n hx hb dX1_perform_44 rfl (lv_at hl 1 rfl) ?_
  refine gf_1_10 hx hb hts hown hH m0 k0 rfl kf_X1_35 dX1_perform_45 ?_
  refine lv_topl (fun w51 ew51 => ?_)
  replace hv := fnS hv ew51
  refine pf_4_0 hx hb hts hown hH mb50 kb50 rfl kf_X1_91 dX1_perform_48 (fun J52 H locs eJ52 hH => ?_)
  replace hv := fnS hv eJ52
  have sm : Sm C ms_X1_perform (I, J, R) (I37, J52, R13) := by rw [eJ52]; exact sm.stJ kb50 (mC_obj (by decide) rfl)
  refine lv_aload_n hx hb dX1_perform_51 rfl (lv_at hl 1 rfl) ?_
  refine gf_1_3 vb50 hx hb hts hown hH m0 k0 rfl kf_X1_51 dX1_perform_52 ?_
  refine lv_dup hx hb dX1_perform_55 rfl ?_
  refine gf_4_3 hx hb hts hown hH mb50 kb50 rfl kf_X1_96 dX1_perform_56 ?_
  refine lv_topi (fun y53 ey53 => ?_)
  replace hv := fnS hv ey53
  refine lv_iconst (v := 1) hx hb dX1_perform_59 (by decide) ?_
  refine lv_iadd hx hb dX1_perform_60 ?_
  refine lv_topi (fun y54 ey54 => ?_)
  replace hv := fnS hv ey54
  refine pf_4_3 hx hb hts hown hH mb50 kb50 rfl kf_X1_96 dX1_perform_61 (fun I55 H locs eI55 hH => ?_)
  replace hv := fnS hv eI55
  have oI : OkI L C I55 := by rw [eI55]; exact wf_4_3 oI kb50 (Rg_any y54)
  have sm : Sm C ms_X1_perform (I, J, R) (I55, J52, R13) := by rw [eI55]; exact sm.stI kb50 (mC_obj (by decide) rfl)
  have f56 : y54 = I55 b50 3 := by rw [eI55, u2_at]
  refine lv_goto (tgt := 80) hx hb dX1_perform_64 (by decide) ?_
  refine lv_iload_n hx hb dX1_perform_80 rfl (lv_at hl 0 rfl) ?_
  exact ret (1) _ _ _ _ _ _ _ dX1_perform_81 hH (Rg_01 (Rg_w (Rg_c (x := 1) (a := (1)) (b := (1)) (by decide)) (by decide))) ⟨⟨oI, oR, sm⟩, (Rg_w (Rg_c (x := 1) (a := (1)) (b := (1)) (by decide)) (by decide)), (hT.symm.trans hv)⟩
