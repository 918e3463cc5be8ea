noncomputable def F_X0_has (a0 : Nat) (x1 : Int32) (x2 : Int32) (I : hI) (J : hJ) (R : hR) : Int32 :=
  nm (F_X0_placeOf a0 x1 x2 I J R) fun y1 => (if y1 = (-1 : Int32) then (0 : Int32) else nm (I a0 1) fun y3 => (if y1 = (-1 : Int32) then default else (1 : Int32)))
set_option maxHeartbeats 4000000 in
set_option maxRecDepth 100000 in
theorem c_X0_has {l : Launch} {D : va_G} {cy : Nat → ClassId} {L : List Nat} {C : Nat → Nat} {b0 : Nat} {I : hI} {J : hJ} {R : hR} {a0 : Nat} {x1 : Int32} {x2 : Int32} (oI : OkI L C I) (oR : OkR L C R) (m0 : a0 ∈ L) (k0 : C a0 = 0) : CI l yX0_has cX0_has 3 .boolean 1 D cy L C b0 [.ref a0, .int x1, .int x2] (I, J, R) (fun r v => v.1 = I ∧ v.2.1 = J ∧ v.2.2 = R ∧ Rg r (0) (1) ∧ F_X0_has a0 x1 x2 I J R = r) := by
  refine CI.mkZ (plainFor_of_name (by decide)) (Nat.le_of_ble_eq_true rfl) ?_
  intro p e s m args below meth c ls Q hF ret hH hl
  obtain ⟨hx, hb, -, hml, hown, hts, -⟩ := hF
  have hl : lv_has ls 3 [(0, .ref a0), (1, .int x1), (2, .int x2)] := hl
  have hH : Hp D cy L C b0 s s.heap I J R s.heap [] := hH
  obtain ⟨TT0, hT⟩ : ∃ TT0, TT0 = F_X0_has a0 x1 x2 I J R := ⟨_, rfl⟩
  have hv := hT
  unfold F_X0_has at hv
  refine lv_aload_n hx hb dX0_has_0 rfl (lv_at hl 0 rfl) ?_
  refine lv_iload_n hx hb dX0_has_1 rfl (lv_at hl 1 rfl) ?_
  refine lv_iload_n hx hb dX0_has_2 rfl (lv_at hl 2 rfl) ?_
  refine ca_X0_19 hx hb hml hown hts hH (c_X0_placeOf oI oR m0 k0) hl.1 m0 k0 rfl (by decide) (Nat.le_of_ble_eq_true rfl) ⟨Nat.zero_le _, Nat.zero_le _⟩ dX0_has_3 (fun y1 I1 J1 R1 H locs hp hH => ?_)
  obtain ⟨eI1, eJ1, eR1, ry1, hp1, hf1⟩ := hp
  obtain rfl : I = I1 := eI1.symm
  obtain rfl : J = J1 := eJ1.symm
  obtain rfl : R = R1 := eR1.symm
  replace hv := fnS hv hf1.symm
  rcases hp1 with rfl | hq1
  · replace hv := fnP hv rfl
    refine lv_iconst (v := (-1)) hx hb dX0_has_6 (by decide) ?_
    refine lv_icmp_eq (tgt := 14) hx hb dX0_has_7 (by decide) (fun q5 => ?_) (fun q5 => ?_)
    rotate_left
    · exact absurd rfl q5
    refine lv_iconst (v := 0) hx hb dX0_has_14 (by decide) ?_
    exact ret (0) _ _ _ _ _ _ _ dX0_has_15 hH (Rg_01 (Rg_w (Rg_c (x := 0) (a := (0)) (b := (0)) (by decide)) (by decide))) ⟨rfl, rfl, rfl, (Rg_w (Rg_c (x := 0) (a := (0)) (b := (0)) (by decide)) (by decide)), (hT.symm.trans hv)⟩
  replace hv := fnN hv (fun h => by rw [h] at hq1; exact absurd hq1.1 (by decide))
  have r2 : Rg y1 (0) (29) := ⟨hq1.1, ry1.2⟩
  obtain ⟨y3, ey3⟩ : ∃ y : Int32, y = I a0 1 := ⟨_, rfl⟩
  replace hv := fnS hv ey3
  have ry3 : Rg y3 (0) (30) := by rw [ey3]; exact rf_0_1 oI m0 k0
  have r4 : Rg y3 (1) (30) := ⟨by have h9 := hq1; rw [← ey3] at h9; omega, ry3.2⟩
  refine lv_iconst (v := (-1)) hx hb dX0_has_6 (by decide) ?_
  refine lv_icmp_eq (tgt := 14) hx hb dX0_has_7 (by decide) (fun q6 => ?_) (fun q6 => ?_)
  · replace hv := fnP hv q6
    exact Rg_no (Rg_both r2 (Rg_eqv q6 (Rg_c (x := (-1)) (a := (-1)) (b := (-1)) (by decide))) (a' := (0)) (b' := (-1)) (by decide)) (by decide)
  replace hv := fnN hv q6
  have l8 := Rg_ne q6
  refine lv_iconst (v := 1) hx hb dX0_has_10 (by decide) ?_
  refine lv_goto (tgt := 15) hx hb dX0_has_11 (by decide) ?_
  exact ret (1) _ _ _ _ _ _ _ dX0_has_15 hH (Rg_01 (Rg_w (Rg_c (x := 1) (a := (1)) (b := (1)) (by decide)) (by decide))) ⟨rfl, rfl, rfl, (Rg_w (Rg_c (x := 1) (a := (1)) (b := (1)) (by decide)) (by decide)), (hT.symm.trans hv)⟩
noncomputable def F_X0_add (a0 : Nat) (x1 : Int32) (x2 : Int32) (I : hI) (J : hJ) (R : hR) : Int32 × hU :=
  nm (I a0 1) fun y1 => (if (30 : Int32) ≤ y1 then ((0 : Int32), (I, J, R)) else nm (F_X0_has a0 x1 x2 I J R) fun y7 => (if y7 = (0 : Int32) then nm ((R a0 0).getD 0) fun b11 => nm (x1 * (100 : Int32)) fun y13 => nm (y13 + x2) fun y14 => nm (u2 I b11 (Int32.toNatClampNeg y1) y14) fun I15 => nm (y1 + (1 : Int32)) fun y19 => nm (u2 I15 a0 1 y19) fun I20 => ((1 : Int32), (I20, J, R)) else ((0 : Int32), (I, J, R))))
def ms_X0_add : List Nat := [1, 2560]
set_option maxHeartbeats 4000000 in
set_option maxRecDepth 100000 in
theorem c_X0_add {l : Launch} {D : va_G} {cy : Nat → ClassId} {L : List Nat} {C : Nat → Nat} {b0 : Nat} {I : hI} {J : hJ} {R : hR} {a0 : Nat} {x1 : Int32} {x2 : Int32} (oI : OkI L C I) (oR : OkR L C R) (m0 : a0 ∈ L) (k0 : C a0 = 0) : CI l yX0_add cX0_add 3 .boolean 2 D cy L C b0 [.ref a0, .int x1, .int x2] (I, J, R) (fun r v => Ps L C ms_X0_add (I, J, R) v ∧ v.2.1 = J ∧ v.2.2 = R ∧ Rg r (0) (1) ∧ F_X0_add a0 x1 x2 I J R = (r, v)) := by
  refine CI.mkZ (plainFor_of_name (by decide)) (Nat.le_of_ble_eq_true rfl) ?_
  intro p e s m args below meth c ls Q hF ret hH hl
  obtain ⟨hx, hb, -, hml, hown, hts, -⟩ := hF
  have hl : lv_has ls 3 [(0, .ref a0), (1, .int x1), (2, .int x2)] := hl
  have hH : Hp D cy L C b0 s s.heap I J R s.heap [] := hH
  have sm : Sm C ms_X0_add (I, J, R) (I, J, R) := Sm.rf
  obtain ⟨TT0, hT⟩ : ∃ TT0, TT0 = F_X0_add a0 x1 x2 I J R := ⟨_, rfl⟩
  have hv := hT
  unfold F_X0_add at hv
  refine lv_aload_n hx hb dX0_add_0 rfl (lv_at hl 0 rfl) ?_
  refine gf_0_1 hx hb hts hown hH m0 k0 rfl kf_X0_15 dX0_add_1 ?_
  refine lv_topi (fun y1 ey1 => ?_)
  have ry1 : Rg y1 (0) (30) := by rw [ey1]; exact rf_0_1 oI m0 k0
  replace hv := fnS hv ey1
  refine lv_bipush (v := 30) hx hb dX0_add_4 (by decide) ?_
  refine lv_icmp_ge (tgt := 18) hx hb dX0_add_6 (by decide) (fun q2 => ?_) (fun q2 => ?_)
  · replace hv := fnP hv q2
    have l3 := Rg_le q2
    have r4 : Rg y1 (30) (30) := Rg_lle ry1 (Rg_le q2) (Rg_c (x := 30) (a := (30)) (b := (30)) (by decide)) (by decide)
    refine lv_iconst (v := 0) hx hb dX0_add_18 (by decide) ?_
    exact ret (0) _ _ _ _ _ _ _ dX0_add_19 hH (Rg_01 (Rg_w (Rg_c (x := 0) (a := (0)) (b := (0)) (by decide)) (by decide))) ⟨⟨oI, oR, sm⟩, rfl, rfl, (Rg_w (Rg_c (x := 0) (a := (0)) (b := (0)) (by decide)) (by decide)), (hT.symm.trans hv)⟩
  replace hv := fnN hv q2
  have l5 := Rg_nle q2
  have r6 : Rg y1 (0) (29) := Rg_ult ry1 (Rg_nle q2) (Rg_c (x := 30) (a := (30)) (b := (30)) (by decide)) (by decide)
  refine lv_aload_n hx hb dX0_add_9 rfl (lv_at hl 0 rfl) ?_
  refine lv_iload_n hx hb dX0_add_10 rfl (lv_at hl 1 rfl) ?_
  refine lv_iload_n hx hb dX0_add_11 rfl (lv_at hl 2 rfl) ?_
  refine ca_X0_23 hx hb hml hown hts hH (c_X0_has oI oR m0 k0) hl.1 m0 k0 rfl (by decide) (Nat.le_of_ble_eq_true rfl) ⟨Nat.zero_le _, Nat.zero_le _⟩ dX0_add_12 (fun y7 I7 J7 R7 H locs hp hH => ?_)
  obtain ⟨eI7, eJ7, eR7, ry7, hf7⟩ := hp
  obtain rfl : I = I7 := eI7.symm
  obtain rfl : J = J7 := eJ7.symm
  obtain rfl : R = R7 := eR7.symm
  replace hv := fnS hv hf7.symm
  refine lv_if_eq (tgt := 20) hx hb dX0_add_15 (by decide) (fun q8 => ?_) (fun q8 => ?_)
  rotate_left
  · replace hv := fnN hv q8
    have l22 := Rg_ne q8
    have r23 : Rg y7 (1) (1) := Rg_nelo ry7 (Rg_ne q8) (Rg_c (x := 0) (a := (0)) (b := (0)) (by decide)) (by decide)
    refine lv_iconst (v := 0) hx hb dX0_add_18 (by decide) ?_
    exact ret (0) _ _ _ _ _ _ _ dX0_add_19 hH (Rg_01 (Rg_w (Rg_c (x := 0) (a := (0)) (b := (0)) (by decide)) (by decide))) ⟨⟨oI, oR, sm⟩, rfl, rfl, (Rg_w (Rg_c (x := 0) (a := (0)) (b := (0)) (by decide)) (by decide)), (hT.symm.trans hv)⟩
  replace hv := fnP hv q8
  have l9 := congrArg Int32.toInt q8
  have r10 : Rg y7 (0) (0) := Rg_both ry7 (Rg_eqv q8 (Rg_c (x := 0) (a := (0)) (b := (0)) (by decide))) (by decide)
  refine lv_aload_n hx hb dX0_add_20 rfl (lv_at hl 0 rfl) ?_
  obtain ⟨b11, mb11, vb11, kb11⟩ := rf_0_0 oR m0 k0
  replace hv := fnR hv vb11
  refine gf_0_0 vb11 hx hb hts hown hH m0 k0 rfl kf_X0_11 dX0_add_21 ?_
  refine lv_aload_n hx hb dX0_add_24 rfl (lv_at hl 0 rfl) ?_
  refine gf_0_1 hx hb hts hown hH m0 k0 rfl kf_X0_15 dX0_add_25 ?_
  refine lv_topi (fun y12 ey12 => ?_)
  obtain rfl : y1 = y12 := ey1.trans ey12.symm
  refine lv_iload_n hx hb dX0_add_28 rfl (lv_at hl 1 rfl) ?_
  refine lv_bipush (v := 100) hx hb dX0_add_29 (by decide) ?_
  refine lv_imul hx hb dX0_add_31 ?_
  refine lv_topi (fun y13 ey13 => ?_)
  replace hv := fnS hv ey13
  refine lv_iload_n hx hb dX0_add_32 rfl (lv_at hl 2 rfl) ?_
  refine lv_iadd hx hb dX0_add_33 ?_
  refine lv_topi (fun y14 ey14 => ?_)
  replace hv := fnS hv ey14
  refine st_40 hx hb hH mb11 kb11 (Rg_in r6 (by decide)) dX0_add_34 (fun I15 H locs eI15 hH => ?_)
  replace hv := fnS hv eI15
  have oI : OkI L C I15 := by rw [eI15]; exact wr_40 oI kb11 (Rg_any y14)
  have sm : Sm C ms_X0_add (I, J, R) (I15, J, R) := by rw [eI15]; exact sm.stI kb11 (mC_arr (by decide) rfl)
  refine lv_aload_n hx hb dX0_add_35 rfl (lv_at hl 0 rfl) ?_
  refine lv_dup hx hb dX0_add_36 rfl ?_
  have f17 : I15 a0 (1) = I a0 (1) := (by rw [eI15, u2_ne (ne_role k0 kb11 (by decide))])
  have f16 : y1 = I15 a0 (1) := ey1.trans f17.symm
  refine gf_0_1 hx hb hts hown hH m0 k0 rfl kf_X0_15 dX0_add_37 ?_
  refine lv_topi (fun y18 ey18 => ?_)
  obtain rfl : y1 = y18 := f16.trans ey18.symm
  refine lv_iconst (v := 1) hx hb dX0_add_40 (by decide) ?_
  refine lv_iadd hx hb dX0_add_41 ?_
  refine lv_topi (fun y19 ey19 => ?_)
  replace hv := fnS hv ey19
  obtain ⟨ty19, ry19⟩ := Rg_addx (a' := (1)) (b' := (30)) (rfl : y1.toInt = _) (by decide : Int32.toInt 1 = 1) r6 (Rg_c (x := 1) (a := (1)) (b := (1)) (by decide)) (by decide)
  rw [← ey19] at ty19 ry19
  refine pf_0_1 hx hb hts hown hH m0 k0 rfl kf_X0_15 dX0_add_42 (fun I20 H locs eI20 hH => ?_)
  replace hv := fnS hv eI20
  have oI : OkI L C I20 := by rw [eI20]; exact wf_0_1 oI k0 (Rg_w ry19 (by decide))
  have sm : Sm C ms_X0_add (I, J, R) (I20, J, R) := by rw [eI20]; exact sm.stI k0 (mC_obj (by decide) rfl)
  have f21 : y19 = I20 a0 1 := by rw [eI20, u2_at]
  refine lv_iconst (v := 1) hx hb dX0_add_45 (by decide) ?_
  exact ret (1) _ _ _ _ _ _ _ dX0_add_46 hH (Rg_01 (Rg_w (Rg_c (x := 1) (a := (1)) (b := (1)) (by decide)) (by decide))) ⟨⟨oI, oR, sm⟩, rfl, rfl, (Rg_w (Rg_c (x := 1) (a := (1)) (b := (1)) (by decide)) (by decide)), (hT.symm.trans hv)⟩
noncomputable def F_X0_remove (a0 : Nat) (x1 : Int32) (x2 : Int32) (I : hI) (J : hJ) (R : hR) : Int32 × hU :=
  nm (F_X0_placeOf a0 x1 x2 I J R) fun y1 => (if y1 = (-1 : Int32) then ((0 : Int32), (I, J, R)) else nm (I a0 1) fun y3 => (if y1 = (-1 : Int32) then default else nm (y3 - (1 : Int32)) fun y9 => nm (u2 I a0 1 y9) fun I10 => nm ((R a0 0).getD 0) fun b12 => nm (I10 b12 (Int32.toNatClampNeg y9)) fun y14 => nm (u2 I10 b12 (Int32.toNatClampNeg y1) y14) fun I15 => ((1 : Int32), (I15, J, R))))
def ms_X0_remove : List Nat := [1, 2560]
set_option maxHeartbeats 4000000 in
set_option maxRecDepth 100000 in
theorem c_X0_remove {l : Launch} {D : va_G} {cy : Nat → ClassId} {L : List Nat} {C : Nat → Nat} {b0 : Nat} {I : hI} {J : hJ} {R : hR} {a0 : Nat} {x1 : Int32} {x2 : Int32} (oI : OkI L C I) (oR : OkR L C R) (m0 : a0 ∈ L) (k0 : C a0 = 0) : CI l yX0_remove cX0_remove 4 .boolean 1 D cy L C b0 [.ref a0, .int x1, .int x2] (I, J, R) (fun r v => Ps L C ms_X0_remove (I, J, R) v ∧ v.2.1 = J ∧ v.2.2 = R ∧ Rg r (0) (1) ∧ F_X0_remove a0 x1 x2 I J R = (r, v)) := by
  refine CI.mkZ (plainFor_of_name (by decide)) (Nat.le_of_ble_eq_true rfl) ?_
  intro p e s m args below meth c ls Q hF ret hH hl
  obtain ⟨hx, hb, -, hml, hown, hts, -⟩ := hF
  have hl : lv_has ls 4 [(0, .ref a0), (1, .int x1), (2, .int x2)] := hl
  have hH : Hp D cy L C b0 s s.heap I J R s.heap [] := hH
  have sm : Sm C ms_X0_remove (I, J, R) (I, J, R) := Sm.rf
  obtain ⟨TT0, hT⟩ : ∃ TT0, TT0 = F_X0_remove a0 x1 x2 I J R := ⟨_, rfl⟩
  have hv := hT
  unfold F_X0_remove at hv
  refine lv_aload_n hx hb dX0_remove_0 rfl (lv_at hl 0 rfl) ?_
  refine lv_iload_n hx hb dX0_remove_1 rfl (lv_at hl 1 rfl) ?_
  refine lv_iload_n hx hb dX0_remove_2 rfl (lv_at hl 2 rfl) ?_
  refine ca_X0_19 hx hb hml hown hts hH (c_X0_placeOf oI oR m0 k0) hl.1 m0 k0 rfl (by decide) (Nat.le_of_ble_eq_true rfl) ⟨Nat.zero_le _, Nat.zero_le _⟩ dX0_remove_3 (fun y1 I1 J1 R1 H locs hp hH => ?_)
  obtain ⟨eI1, eJ1, eR1, ry1, hp1, hf1⟩ := hp
  obtain rfl : I = I1 := eI1.symm
  obtain rfl : J = J1 := eJ1.symm
  obtain rfl : R = R1 := eR1.symm
  replace hv := fnS hv hf1.symm
  rcases hp1 with rfl | hq1
  · replace hv := fnP hv rfl
    refine lv_istore_n (lv' := [(3, .int (-1)), (0, .ref a0), (1, .int x1), (2, .int x2)]) hx hb dX0_remove_6 rfl hl (by decide) rfl (fun ls hl => ?_)
    refine lv_iload_n hx hb dX0_remove_7 rfl (lv_at hl 0 rfl) ?_
    refine lv_iconst (v := (-1)) hx hb dX0_remove_8 (by decide) ?_
    refine lv_icmp_ne (tgt := 14) hx hb dX0_remove_9 (by decide) (fun q5 => ?_) (fun q5 => ?_)
    · exact absurd rfl q5
    refine lv_iconst (v := 0) hx hb dX0_remove_12 (by decide) ?_
    exact ret (0) _ _ _ _ _ _ _ dX0_remove_13 hH (Rg_01 (Rg_w (Rg_c (x := 0) (a := (0)) (b := (0)) (by decide)) (by decide))) ⟨⟨oI, oR, sm⟩, rfl, rfl, (Rg_w (Rg_c (x := 0) (a := (0)) (b := (0)) (by decide)) (by decide)), (hT.symm.trans hv)⟩
  replace hv := fnN hv (fun h => by rw [h] at hq1; exact absurd hq1.1 (by decide))
  have r2 : Rg y1 (0) (29) := ⟨hq1.1, ry1.2⟩
  obtain ⟨y3, ey3⟩ : ∃ y : Int32, y = I a0 1 := ⟨_, rfl⟩
  replace hv := fnS hv ey3
  have ry3 : Rg y3 (0) (30) := by rw [ey3]; exact rf_0_1 oI m0 k0
  have r4 : Rg y3 (1) (30) := ⟨by have h9 := hq1; rw [← ey3] at h9; omega, ry3.2⟩
  refine lv_istore_n (lv' := [(3, .int y1), (0, .ref a0), (1, .int x1), (2, .int x2)]) hx hb dX0_remove_6 rfl hl (by decide) rfl (fun ls hl => ?_)
  refine lv_iload_n hx hb dX0_remove_7 rfl (lv_at hl 0 rfl) ?_
  refine lv_iconst (v := (-1)) hx hb dX0_remove_8 (by decide) ?_
  refine lv_icmp_ne (tgt := 14) hx hb dX0_remove_9 (by decide) (fun q6 => ?_) (fun q6 => ?_)
  rotate_left
  · replace hv := fnP hv q6
    exact Rg_no (Rg_both r2 (Rg_eqv q6 (Rg_c (x := (-1)) (a := (-1)) (b := (-1)) (by decide))) (a' := (0)) (b' := (-1)) (by decide)) (by decide)
  replace hv := fnN hv q6
  have l7 := Rg_ne q6
  refine lv_aload_n hx hb dX0_remove_14 rfl (lv_at hl 1 rfl) ?_
  refine lv_dup hx hb dX0_remove_15 rfl ?_
  refine gf_0_1 hx hb hts hown hH m0 k0 rfl kf_X0_15 dX0_remove_16 ?_
  refine lv_topi (fun y8 ey8 => ?_)
  obtain rfl : y3 = y8 := ey3.trans ey8.symm
  refine lv_iconst (v := 1) hx hb dX0_remove_19 (by decide) ?_
  refine lv_isub hx hb dX0_remove_20 ?_
  refine lv_topi (fun y9 ey9 => ?_)
  replace hv := fnS hv ey9
  obtain ⟨ty9, ry9⟩ := Rg_subx (a' := (0)) (b' := (29)) (rfl : y3.toInt = _) (by decide : Int32.toInt 1 = 1) r4 (Rg_c (x := 1) (a := (1)) (b := (1)) (by decide)) (by decide)
  rw [← ey9] at ty9 ry9
  refine pf_0_1 hx hb hts hown hH m0 k0 rfl kf_X0_15 dX0_remove_21 (fun I10 H locs eI10 hH => ?_)
  replace hv := fnS hv eI10
  have oI : OkI L C I10 := by rw [eI10]; exact wf_0_1 oI k0 (Rg_w ry9 (by decide))
  have sm : Sm C ms_X0_remove (I, J, R) (I10, J, R) := by rw [eI10]; exact sm.stI k0 (mC_obj (by decide) rfl)
  have f11 : y9 = I10 a0 1 := by rw [eI10, u2_at]
  refine lv_aload_n hx hb dX0_remove_24 rfl (lv_at hl 1 rfl) ?_
  obtain ⟨b12, mb12, vb12, kb12⟩ := rf_0_0 oR m0 k0
  replace hv := fnR hv vb12
  refine gf_0_0 vb12 hx hb hts hown hH m0 k0 rfl kf_X0_11 dX0_remove_25 ?_
  refine lv_iload_n hx hb dX0_remove_28 rfl (lv_at hl 0 rfl) ?_
  refine lv_aload_n hx hb dX0_remove_29 rfl (lv_at hl 1 rfl) ?_
  refine gf_0_0 vb12 hx hb hts hown hH m0 k0 rfl kf_X0_11 dX0_remove_30 ?_
  refine lv_aload_n hx hb dX0_remove_33 rfl (lv_at hl 1 rfl) ?_
  refine gf_0_1 hx hb hts hown hH m0 k0 rfl kf_X0_15 dX0_remove_34 ?_
  refine lv_topi (fun y13 ey13 => ?_)
  obtain rfl : y9 = y13 := f11.trans ey13.symm
  refine ld_40 hx hb hH mb12 kb12 (Rg_in ry9 (by decide)) dX0_remove_37 ?_
  refine lv_topi (fun y14 ey14 => ?_)
  replace hv := fnS hv ey14
  refine st_40 hx hb hH mb12 kb12 (Rg_in r2 (by decide)) dX0_remove_38 (fun I15 H locs eI15 hH => ?_)
  replace hv := fnS hv eI15
  have oI : OkI L C I15 := by rw [eI15]; exact wr_40 oI kb12 (Rg_any y14)
  have sm : Sm C ms_X0_remove (I, J, R) (I15, J, R) := by rw [eI15]; exact sm.stI kb12 (mC_arr (by decide) rfl)
  refine lv_iconst (v := 1) hx hb dX0_remove_39 (by decide) ?_
  exact ret (1) _ _ _ _ _ _ _ dX0_remove_40 hH (Rg_01 (Rg_w (Rg_c (x := 1) (a := (1)) (b := (1)) (by decide)) (by decide))) ⟨⟨oI, oR, sm⟩, rfl, rfl, (Rg_w (Rg_c (x := 1) (a := (1)) (b := (1)) (by decide)) (by decide)), (hT.symm.trans hv)⟩
noncomputable def F_X6_hasRoom (a0 : Nat) (I : hI) (J : hJ) (R : hR) : Int32 :=
  nm (I a0 6) fun y1 => (if (32 : Int32) ≤ y1 then (0 : Int32) else (1 : Int32))
set_option maxHeartbeats 4000000 in
set_option maxRecDepth 100000 in
theorem c_X6_hasRoom {l : Launch} {D : va_G} {cy : Nat → ClassId} {L : List Nat} {C : Nat → Nat} {b0 : Nat} {I : hI} {J : hJ} {R : hR} {a0 : Nat} (oI : OkI L C I) (oR : OkR L C R) (m0 : a0 ∈ L) (k0 : C a0 = 6) : CI l yX6_hasRoom cX6_hasRoom 1 .boolean 0 D cy L C b0 [.ref a0] (I, J, R) (fun r v => v.1 = I ∧ v.2.1 = J ∧ v.2.2 = R ∧ Rg r (0) (1) ∧ ((r = 1 ∧ (I a0 6).toInt ≤ 31) ∨ (r = 0 ∧ 31 < (I a0 6).toInt)) ∧ F_X6_hasRoom a0 I J R = r) := by
  refine CI.mkZ (plainFor_of_name (by decide)) (Nat.le_of_ble_eq_true rfl) ?_
  intro p e s m args below meth c ls Q hF ret hH hl
  obtain ⟨hx, hb, -, hml, hown, hts, -⟩ := hF
  have hl : lv_has ls 1 [(0, .ref a0)] := hl
  have hH : Hp D cy L C b0 s s.heap I J R s.heap [] := hH
  obtain ⟨TT0, hT⟩ : ∃ TT0, TT0 = F_X6_hasRoom a0 I J R := ⟨_, rfl⟩
  have hv := hT
  unfold F_X6_hasRoom at hv
  refine lv_aload_n hx hb dX6_hasRoom_0 rfl (lv_at hl 0 rfl) ?_
  refine gf_6_6 hx hb hts hown hH m0 k0 rfl kf_X6_31 dX6_hasRoom_1 ?_
  refine lv_topi (fun y1 ey1 => ?_)
  have ry1 : Rg y1 (0) (32) := by rw [ey1]; exact rf_6_6 oI m0 k0
  replace hv := fnS hv ey1
  refine lv_bipush (v := 32) hx hb dX6_hasRoom_4 (by decide) ?_
  refine lv_icmp_ge (tgt := 13) hx hb dX6_hasRoom_6 (by decide) (fun q2 => ?_) (fun q2 => ?_)
  · replace hv := fnP hv q2
    have l3 := Rg_le q2
    have r4 : Rg y1 (32) (32) := Rg_lle ry1 (Rg_le q2) (Rg_c (x := 32) (a := (32)) (b := (32)) (by decide)) (by decide)
    refine lv_iconst (v := 0) hx hb dX6_hasRoom_13 (by decide) ?_
    exact ret (0) _ _ _ _ _ _ _ dX6_hasRoom_14 hH (Rg_01 (Rg_w (Rg_c (x := 0) (a := (0)) (b := (0)) (by decide)) (by decide))) ⟨rfl, rfl, rfl, (Rg_w (Rg_c (x := 0) (a := (0)) (b := (0)) (by decide)) (by decide)), (by refine Or.inr ⟨rfl, ?_⟩; rw [← ey1]; have a1 := r4.1; omega), (hT.symm.trans hv)⟩
  replace hv := fnN hv q2
  have l5 := Rg_nle q2
  have r6 : Rg y1 (0) (31) := Rg_ult ry1 (Rg_nle q2) (Rg_c (x := 32) (a := (32)) (b := (32)) (by decide)) (by decide)
  refine lv_iconst (v := 1) hx hb dX6_hasRoom_9 (by decide) ?_
  refine lv_goto (tgt := 14) hx hb dX6_hasRoom_10 (by decide) ?_
  exact ret (1) _ _ _ _ _ _ _ dX6_hasRoom_14 hH (Rg_01 (Rg_w (Rg_c (x := 1) (a := (1)) (b := (1)) (by decide)) (by decide))) ⟨rfl, rfl, rfl, (Rg_w (Rg_c (x := 1) (a := (1)) (b := (1)) (by decide)) (by decide)), (by refine Or.inl ⟨rfl, ?_⟩; rw [← ey1]; exact r6.2), (hT.symm.trans hv)⟩
noncomputable def F_X6_keep (a0 : Nat) (x1 : Int32) (x2 : Int32) (x3 : Int32) (x4 : Int32) (x5 : Int32) (I : hI) (J : hJ) (R : hR) : hU :=
  nm (I a0 6) fun z1 => nm ((R a0 0).getD 0) fun b2 => nm (u2 I b2 (Int32.toNatClampNeg z1) x1) fun I4 => nm ((R a0 1).getD 0) fun b5 => nm (u2 I4 b5 (Int32.toNatClampNeg z1) x2) fun I9 => nm ((R a0 2).getD 0) fun b10 => nm (u2 I9 b10 (Int32.toNatClampNeg z1) x3) fun I14 => nm ((R a0 3).getD 0) fun b15 => nm (u2 I14 b15 (Int32.toNatClampNeg z1) x4) fun I19 => nm ((R a0 4).getD 0) fun b20 => nm (u2 I19 b20 (Int32.toNatClampNeg z1) x5) fun I24 => nm ((R a0 5).getD 0) fun b25 => nm (u2 I24 b25 (Int32.toNatClampNeg z1) (1 : Int32)) fun I29 => nm (z1 + (1 : Int32)) fun y33 => nm (u2 I29 a0 6 y33) fun I34 => nm (I34 a0 7) fun y36 => nm (y36 + (1 : Int32)) fun y37 => nm (u2 I34 a0 7 y37) fun I38 => (I38, J, R)
def ms_X6_keep : List Nat := [390, 391, 2048, 2112, 2176, 2240, 2304, 2368]
set_option maxHeartbeats 4000000 in
set_option maxRecDepth 100000 in
theorem c_X6_keep {l : Launch} {D : va_G} {cy : Nat → ClassId} {L : List Nat} {C : Nat → Nat} {b0 : Nat} {I : hI} {J : hJ} {R : hR} {a0 : Nat} {x1 : Int32} {x2 : Int32} {x3 : Int32} {x4 : Int32} {x5 : Int32} (oI : OkI L C I) (oR : OkR L C R) (m0 : a0 ∈ L) (k0 : C a0 = 6) (h1 : Rg x1 (0) (6)) (h2 : Rg x2 (0) (6)) (h3 : Rg x3 (0) (50)) (h4 : Rg x4 (-1000) (1000)) (h5 : Rg x5 (-1000) (1000)) (hm6 : Rg (I a0 6) (0) (31)) (hU : Uq L C) : CV l yX6_keep cX6_keep 6 0 D cy L C b0 [.ref a0, .int x1, .int x2, .int x3, .int x4, .int x5] (I, J, R) (fun v => Ps L C ms_X6_keep (I, J, R) v ∧ v.2.1 = J ∧ v.2.2 = R ∧ Rg (v.1 a0 6) (1) (32) ∧ (((v.1 a0 6).toInt = (I a0 6).toInt + 1 ∧ v.1 a0 6 = I a0 6 + 1) ∧ (∀ b ∈ L, C b = 32 → v.1 b = up (I b) (I a0 6).toNatClampNeg x1) ∧ (∀ b ∈ L, C b = 33 → v.1 b = up (I b) (I a0 6).toNatClampNeg x2) ∧ (∀ b ∈ L, C b = 34 → v.1 b = up (I b) (I a0 6).toNatClampNeg x3) ∧ (∀ b ∈ L, C b = 35 → v.1 b = up (I b) (I a0 6).toNatClampNeg x4) ∧ (∀ b ∈ L, C b = 36 → v.1 b = up (I b) (I a0 6).toNatClampNeg x5) ∧ (∀ b ∈ L, C b = 37 → v.1 b = up (I b) (I a0 6).toNatClampNeg 1)) ∧ F_X6_keep a0 x1 x2 x3 x4 x5 I J R = v) := by
  refine CV.mk (plainFor_of_name (by decide)) (Nat.le_of_ble_eq_true rfl) ?_
  intro p e s m args below meth c ls Q hF ret hH hl
  obtain ⟨hx, hb, -, hml, hown, hts, -⟩ := hF
  have hl : lv_has ls 6 [(0, .ref a0), (1, .int x1), (2, .int x2), (3, .int x3), (4, .int x4), (5, .int x5)] := hl
  have hH : Hp D cy L C b0 s s.heap I J R s.heap [] := hH
  have sm : Sm C ms_X6_keep (I, J, R) (I, J, R) := Sm.rf
  obtain ⟨TT0, hT⟩ : ∃ TT0, TT0 = F_X6_keep a0 x1 x2 x3 x4 x5 I J R := ⟨_, rfl⟩
  have hv := hT
  unfold F_X6_keep at hv
  obtain ⟨z1, ez1⟩ : ∃ y : Int32, y = I a0 6 := ⟨_, rfl⟩
  have rz1 : Rg z1 (0) (31) := by rw [ez1]; exact hm6
  replace hv := fnS hv ez1
  refine lv_aload_n hx hb dX6_keep_0 rfl (lv_at hl 0 rfl) ?_
  obtain ⟨b2, mb2, vb2, kb2⟩ := rf_6_0 oR m0 k0
  replace hv := fnR hv vb2
  refine gf_6_0 vb2 hx hb hts hown hH m0 k0 rfl kf_X6_11 dX6_keep_1 ?_
  refine lv_aload_n hx hb dX6_keep_4 rfl (lv_at hl 0 rfl) ?_
  refine gf_6_6 hx hb hts hown hH m0 k0 rfl kf_X6_31 dX6_keep_5 ?_
  refine lv_topi (fun y3 ey3 => ?_)
  obtain rfl : z1 = y3 := ez1.trans ey3.symm
  refine lv_iload_n hx hb dX6_keep_8 rfl (lv_at hl 1 rfl) ?_
  refine st_32 hx hb hH mb2 kb2 (Rg_in rz1 (by decide)) dX6_keep_9 (fun I4 H locs eI4 hH => ?_)
  replace hv := fnS hv eI4
  have oI : OkI L C I4 := by rw [eI4]; exact wr_32 oI kb2 h1
  have sm : Sm C ms_X6_keep (I, J, R) (I4, J, R) := by rw [eI4]; exact sm.stI kb2 (mC_arr (by decide) rfl)
  refine lv_aload_n hx hb dX6_keep_10 rfl (lv_at hl 0 rfl) ?_
  obtain ⟨b5, mb5, vb5, kb5⟩ := rf_6_1 oR m0 k0
  replace hv := fnR hv vb5
  refine gf_6_1 vb5 hx hb hts hown hH m0 k0 rfl kf_X6_15 dX6_keep_11 ?_
  refine lv_aload_n hx hb dX6_keep_14 rfl (lv_at hl 0 rfl) ?_
  have f7 : I4 a0 (6) = I a0 (6) := (by rw [eI4, u2_ne (ne_role k0 kb2 (by decide))])
  have f6 : z1 = I4 a0 (6) := ez1.trans f7.symm
  refine gf_6_6 hx hb hts hown hH m0 k0 rfl kf_X6_31 dX6_keep_15 ?_
  refine lv_topi (fun y8 ey8 => ?_)
  obtain rfl : z1 = y8 := f6.trans ey8.symm
  refine lv_iload_n hx hb dX6_keep_18 rfl (lv_at hl 2 rfl) ?_
  refine st_33 hx hb hH mb5 kb5 (Rg_in rz1 (by decide)) dX6_keep_19 (fun I9 H locs eI9 hH => ?_)
  replace hv := fnS hv eI9
  have oI : OkI L C I9 := by rw [eI9]; exact wr_33 oI kb5 h2
  have sm : Sm C ms_X6_keep (I, J, R) (I9, J, R) := by rw [eI9]; exact sm.stI kb5 (mC_arr (by decide) rfl)
  refine lv_aload_n hx hb dX6_keep_20 rfl (lv_at hl 0 rfl) ?_
  obtain ⟨b10, mb10, vb10, kb10⟩ := rf_6_2 oR m0 k0
  replace hv := fnR hv vb10
  refine gf_6_2 vb10 hx hb hts hown hH m0 k0 rfl kf_X6_18 dX6_keep_21 ?_
  refine lv_aload_n hx hb dX6_keep_24 rfl (lv_at hl 0 rfl) ?_
  have f12 : I9 a0 (6) = I4 a0 (6) := (by rw [eI9, u2_ne (ne_role k0 kb5 (by decide))])
  have f11 : z1 = I9 a0 (6) := f6.trans f12.symm
  refine gf_6_6 hx hb hts hown hH m0 k0 rfl kf_X6_31 dX6_keep_25 ?_
  refine lv_topi (fun y13 ey13 => ?_)
  obtain rfl : z1 = y13 := f11.trans ey13.symm
  refine lv_iload_n hx hb dX6_keep_28 rfl (lv_at hl 3 rfl) ?_
  refine st_34 hx hb hH mb10 kb10 (Rg_in rz1 (by decide)) dX6_keep_29 (fun I14 H locs eI14 hH => ?_)
  replace hv := fnS hv eI14
  have oI : OkI L C I14 := by rw [eI14]; exact wr_34 oI kb10 h3
  have sm : Sm C ms_X6_keep (I, J, R) (I14, J, R) := by rw [eI14]; exact sm.stI kb10 (mC_arr (by decide) rfl)
  refine lv_aload_n hx hb dX6_keep_30 rfl (lv_at hl 0 rfl) ?_
  obtain ⟨b15, mb15, vb15, kb15⟩ := rf_6_3 oR m0 k0
  replace hv := fnR hv vb15
  refine gf_6_3 vb15 hx hb hts hown hH m0 k0 rfl kf_X6_21 dX6_keep_31 ?_
  refine lv_aload_n hx hb dX6_keep_34 rfl (lv_at hl 0 rfl) ?_
  have f17 : I14 a0 (6) = I9 a0 (6) := (by rw [eI14, u2_ne (ne_role k0 kb10 (by decide))])
  have f16 : z1 = I14 a0 (6) := f11.trans f17.symm
  refine gf_6_6 hx hb hts hown hH m0 k0 rfl kf_X6_31 dX6_keep_35 ?_
  refine lv_topi (fun y18 ey18 => ?_)
  obtain rfl : z1 = y18 := f16.trans ey18.symm
  refine lv_iload hx hb dX6_keep_38 (lv_at hl 4 rfl) ?_
  refine st_35 hx hb hH mb15 kb15 (Rg_in rz1 (by decide)) dX6_keep_40 (fun I19 H locs eI19 hH => ?_)
  replace hv := fnS hv eI19
  have oI : OkI L C I19 := by rw [eI19]; exact wr_35 oI kb15 h4
  have sm : Sm C ms_X6_keep (I, J, R) (I19, J, R) := by rw [eI19]; exact sm.stI kb15 (mC_arr (by decide) rfl)
  refine lv_aload_n hx hb dX6_keep_41 rfl (lv_at hl 0 rfl) ?_
  obtain ⟨b20, mb20, vb20, kb20⟩ := rf_6_4 oR m0 k0
  replace hv := fnR hv vb20
  refine gf_6_4 vb20 hx hb hts hown hH m0 k0 rfl kf_X6_24 dX6_keep_42 ?_
  refine lv_aload_n hx hb dX6_keep_45 rfl (lv_at hl 0 rfl) ?_
  have f22 : I19 a0 (6) = I14 a0 (6) := (by rw [eI19, u2_ne (ne_role k0 kb15 (by decide))])
  have f21 : z1 = I19 a0 (6) := f16.trans f22.symm
  refine gf_6_6 hx hb hts hown hH m0 k0 rfl kf_X6_31 dX6_keep_46 ?_
  refine lv_topi (fun y23 ey23 => ?_)
  obtain rfl : z1 = y23 := f21.trans ey23.symm
  refine lv_iload hx hb dX6_keep_49 (lv_at hl 5 rfl) ?_
  refine st_36 hx hb hH mb20 kb20 (Rg_in rz1 (by decide)) dX6_keep_51 (fun I24 H locs eI24 hH => ?_)
  replace hv := fnS hv eI24
  have oI : OkI L C I24 := by rw [eI24]; exact wr_36 oI kb20 h5
  have sm : Sm C ms_X6_keep (I, J, R) (I24, J, R) := by rw [eI24]; exact sm.stI kb20 (mC_arr (by decide) rfl)
  refine lv_aload_n hx hb dX6_keep_52 rfl (lv_at hl 0 rfl) ?_
  obtain ⟨b25, mb25, vb25, kb25⟩ := rf_6_5 oR m0 k0
  replace hv := fnR hv vb25
  refine gf_6_5 vb25 hx hb hts hown hH m0 k0 rfl kf_X6_27 dX6_keep_53 ?_
  refine lv_aload_n hx hb dX6_keep_56 rfl (lv_at hl 0 rfl) ?_
  have f27 : I24 a0 (6) = I19 a0 (6) := (by rw [eI24, u2_ne (ne_role k0 kb20 (by decide))])
  have f26 : z1 = I24 a0 (6) := f21.trans f27.symm
  refine gf_6_6 hx hb hts hown hH m0 k0 rfl kf_X6_31 dX6_keep_57 ?_
  refine lv_topi (fun y28 ey28 => ?_)
  obtain rfl : z1 = y28 := f26.trans ey28.symm
  refine lv_iconst (v := 1) hx hb dX6_keep_60 (by decide) ?_
  refine st_37 hx hb hH mb25 kb25 (Rg_in rz1 (by decide)) (Rg_01 (Rg_w (Rg_c (x := 1) (a := (1)) (b := (1)) (by decide)) (by decide))) dX6_keep_61 (fun I29 H locs eI29 hH => ?_)
  replace hv := fnS hv eI29
  have oI : OkI L C I29 := by rw [eI29]; exact wr_37 oI kb25 (Rg_w (Rg_c (x := 1) (a := (1)) (b := (1)) (by decide)) (by decide))
  have sm : Sm C ms_X6_keep (I, J, R) (I29, J, R) := by rw [eI29]; exact sm.stI kb25 (mC_arr (by decide) rfl)
  refine lv_aload_n hx hb dX6_keep_62 rfl (lv_at hl 0 rfl) ?_
  refine lv_dup hx hb dX6_keep_63 rfl ?_
  have f31 : I29 a0 (6) = I24 a0 (6) := (by rw [eI29, u2_ne (ne_role k0 kb25 (by decide))])
  have f30 : z1 = I29 a0 (6) := f26.trans f31.symm
  refine gf_6_6 hx hb hts hown hH m0 k0 rfl kf_X6_31 dX6_keep_64 ?_
  refine lv_topi (fun y32 ey32 => ?_)
  obtain rfl : z1 = y32 := f30.trans ey32.symm
  refine lv_iconst (v := 1) hx hb dX6_keep_67 (by decide) ?_
  refine lv_iadd hx hb dX6_keep_68 ?_
  refine lv_topi (fun y33 ey33 => ?_)
  replace hv := fnS hv ey33
  obtain ⟨ty33, ry33⟩ := Rg_addx (a' := (1)) (b' := (32)) (rfl : z1.toInt = _) (by decide : Int32.toInt 1 = 1) rz1 (Rg_c (x := 1) (a := (1)) (b := (1)) (by decide)) (by decide)
  rw [← ey33] at ty33 ry33
  refine pf_6_6 hx hb hts hown hH m0 k0 rfl kf_X6_31 dX6_keep_69 (fun I34 H locs eI34 hH => ?_)
  replace hv := fnS hv eI34
  have oI : OkI L C I34 := by rw [eI34]; exact wf_6_6 oI k0 (Rg_w ry33 (by decide))
  have sm : Sm C ms_X6_keep (I, J, R) (I34, J, R) := by rw [eI34]; exact sm.stI k0 (mC_obj (by decide) rfl)
  have f35 : y33 = I34 a0 6 := by rw [eI34, u2_at]
  refine lv_aload_n hx hb dX6_keep_72 rfl (lv_at hl 0 rfl) ?_
  refine lv_dup hx hb dX6_keep_73 rfl ?_
  refine gf_6_7 hx hb hts hown hH m0 k0 rfl kf_X6_35 dX6_keep_74 ?_
  refine lv_topi (fun y36 ey36 => ?_)
  replace hv := fnS hv ey36
  refine lv_iconst (v := 1) hx hb dX6_keep_77 (by decide) ?_
  refine lv_iadd hx hb dX6_keep_78 ?_
  refine lv_topi (fun y37 ey37 => ?_)
  replace hv := fnS hv ey37
  refine pf_6_7 hx hb hts hown hH m0 k0 rfl kf_X6_35 dX6_keep_79 (fun I38 H locs eI38 hH => ?_)
  replace hv := fnS hv eI38
  have oI : OkI L C I38 := by rw [eI38]; exact wf_6_7 oI k0 (Rg_any y37)
  have sm : Sm C ms_X6_keep (I, J, R) (I38, J, R) := by rw [eI38]; exact sm.stI k0 (mC_obj (by decide) rfl)
  have f39 : y37 = I38 a0 7 := by rw [eI38, u2_at]
  have f41 : I38 a0 (6) = I34 a0 (6) := (by rw [eI38, u2_nk (by decide)])
  have f40 : y33 = I38 a0 (6) := f35.trans f41.symm
  exact ret _ _ _ _ _ _ _ dX6_keep_82 hH ⟨⟨oI, oR, sm⟩, rfl, rfl, (by show Rg (I38 a0 6) _ _; rw [← f40]; exact Rg_w ry33 (by decide)), (by refine ⟨⟨(by show (I38 a0 6).toInt = _; rw [← f40, ty33, ← ez1]), ?_⟩, ?_, ?_, ?_, ?_, ?_, ?_⟩; show I38 a0 6 = _; rw [← f40, ey33, ez1]; intro b hb hk; rw [hU b hb b2 mb2 (hk.trans kb2.symm) (by rw [hk]; rfl)]; show I38 b2 = _; have s42 : I4 b2 = up (I b2) _ _ := (by rw [eI4]; exact u2_up); have s43 : I9 b2 = I4 b2 := (by rw [eI9, u2_ne (ne_role kb2 kb5 (by decide))]); have s44 : I14 b2 = I9 b2 := (by rw [eI14, u2_ne (ne_role kb2 kb10 (by decide))]); have s45 : I19 b2 = I14 b2 := (by rw [eI19, u2_ne (ne_role kb2 kb15 (by decide))]); have s46 : I24 b2 = I19 b2 := (by rw [eI24, u2_ne (ne_role kb2 kb20 (by decide))]); have s47 : I29 b2 = I24 b2 := (by rw [eI29, u2_ne (ne_role kb2 kb25 (by decide))]); have s48 : I34 b2 = I29 b2 := (by rw [eI34, u2_ne (ne_role kb2 k0 (by decide))]); have s49 : I38 b2 = I34 b2 := (by rw [eI38, u2_ne (ne_role kb2 k0 (by decide))]); rw [s49, s48, s47, s46, s45, s44, s43, s42, ez1]; intro b hb hk; rw [hU b hb b5 mb5 (hk.trans kb5.symm) (by rw [hk]; rfl)]; show I38 b5 = _; have s50 : I4 b5 = I b5 := (by rw [eI4, u2_ne (ne_role kb5 kb2 (by decide))]); have s51 : I9 b5 = up (I4 b5) _ _ := (by rw [eI9]; exact u2_up); have s52 : I14 b5 = I9 b5 := (by rw [eI14, u2_ne (ne_role kb5 kb10 (by decide))]); have s53 : I19 b5 = I14 b5 := (by rw [eI19, u2_ne (ne_role kb5 kb15 (by decide))]); have s54 : I24 b5 = I19 b5 := (by rw [eI24, u2_ne (ne_role kb5 kb20 (by decide))]); have s55 : I29 b5 = I24 b5 := (by rw [eI29, u2_ne (ne_role kb5 kb25 (by decide))]); have s56 : I34 b5 = I29 b5 := (by rw [eI34, u2_ne (ne_role kb5 k0 (by decide))]); have s57 : I38 b5 = I34 b5 := (by rw [eI38, u2_ne (ne_role kb5 k0 (by decide))]); rw [s57, s56, s55, s54, s53, s52, s51, s50, ez1]; intro b hb hk; rw [hU b hb b10 mb10 (hk.trans kb10.symm) (by rw [hk]; rfl)]; show I38 b10 = _; have s58 : I4 b10 = I b10 := (by rw [eI4, u2_ne (ne_role kb10 kb2 (by decide))]); have s59 : I9 b10 = I4 b10 := (by rw [eI9, u2_ne (ne_role kb10 kb5 (by decide))]); have s60 : I14 b10 = up (I9 b10) _ _ := (by rw [eI14]; exact u2_up); have s61 : I19 b10 = I14 b10 := (by rw [eI19, u2_ne (ne_role kb10 kb15 (by decide))]); have s62 : I24 b10 = I19 b10 := (by rw [eI24, u2_ne (ne_role kb10 kb20 (by decide))]); have s63 : I29 b10 = I24 b10 := (by rw [eI29, u2_ne (ne_role kb10 kb25 (by decide))]); have s64 : I34 b10 = I29 b10 := (by rw [eI34, u2_ne (ne_role kb10 k0 (by decide))]); have s65 : I38 b10 = I34 b10 := (by rw [eI38, u2_ne (ne_role kb10 k0 (by decide))]); rw [s65, s64, s63, s62, s61, s60, s59, s58, ez1]; intro b hb hk; rw [hU b hb b15 mb15 (hk.trans kb15.symm) (by rw [hk]; rfl)]; show I38 b15 = _; have s66 : I4 b15 = I b15 := (by rw [eI4, u2_ne (ne_role kb15 kb2 (by decide))]); have s67 : I9 b15 = I4 b15 := (by rw [eI9, u2_ne (ne_role kb15 kb5 (by decide))]); have s68 : I14 b15 = I9 b15 := (by rw [eI14, u2_ne (ne_role kb15 kb10 (by decide))]); have s69 : I19 b15 = up (I14 b15) _ _ := (by rw [eI19]; exact u2_up); have s70 : I24 b15 = I19 b15 := (by rw [eI24, u2_ne (ne_role kb15 kb20 (by decide))]); have s71 : I29 b15 = I24 b15 := (by rw [eI29, u2_ne (ne_role kb15 kb25 (by decide))]); have s72 : I34 b15 = I29 b15 := (by rw [eI34, u2_ne (ne_role kb15 k0 (by decide))]); have s73 : I38 b15 = I34 b15 := (by rw [eI38, u2_ne (ne_role kb15 k0 (by decide))]); rw [s73, s72, s71, s70, s69, s68, s67, s66, ez1]; intro b hb hk; rw [hU b hb b20 mb20 (hk.trans kb20.symm) (by rw [hk]; rfl)]; show I38 b20 = _; have s74 : I4 b20 = I b20 := (by rw [eI4, u2_ne (ne_role kb20 kb2 (by decide))]); have s75 : I9 b20 = I4 b20 := (by rw [eI9, u2_ne (ne_role kb20 kb5 (by decide))]); have s76 : I14 b20 = I9 b20 := (by rw [eI14, u2_ne (ne_role kb20 kb10 (by decide))]); have s77 : I19 b20 = I14 b20 := (by rw [eI19, u2_ne (ne_role kb20 kb15 (by decide))]); have s78 : I24 b20 = up (I19 b20) _ _ := (by rw [eI24]; exact u2_up); have s79 : I29 b20 = I24 b20 := (by rw [eI29, u2_ne (ne_role kb20 kb25 (by decide))]); have s80 : I34 b20 = I29 b20 := (by rw [eI34, u2_ne (ne_role kb20 k0 (by decide))]); have s81 : I38 b20 = I34 b20 := (by rw [eI38, u2_ne (ne_role kb20 k0 (by decide))]); rw [s81, s80, s79, s78, s77, s76, s75, s74, ez1]; intro b hb hk; rw [hU b hb b25 mb25 (hk.trans kb25.symm) (by rw [hk]; rfl)]; show I38 b25 = _; have s82 : I4 b25 = I b25 := (by rw [eI4, u2_ne (ne_role kb25 kb2 (by decide))]); have s83 : I9 b25 = I4 b25 := (by rw [eI9, u2_ne (ne_role kb25 kb5 (by decide))]); have s84 : I14 b25 = I9 b25 := (by rw [eI14, u2_ne (ne_role kb25 kb10 (by decide))]); have s85 : I19 b25 = I14 b25 := (by rw [eI19, u2_ne (ne_role kb25 kb15 (by decide))]); have s86 : I24 b25 = I19 b25 := (by rw [eI24, u2_ne (ne_role kb25 kb20 (by decide))]); have s87 : I29 b25 = up (I24 b25) _ _ := (by rw [eI29]; exact u2_up); have s88 : I34 b25 = I29 b25 := (by rw [eI34, u2_ne (ne_role kb25 k0 (by decide))]); have s89 : I38 b25 = I34 b25 := (by rw [eI38, u2_ne (ne_role kb25 k0 (by decide))]); rw [s89, s88, s87, s86, s85, s84, s83, s82, ez1]), (hT.symm.trans hv)⟩
noncomputable def F_X6_weightOf (a0 : Nat) (x1 : Int32) (I : hI) (J : hJ) (R : hR) : Int32 :=
  nm ((R a0 2).getD 0) fun b1 => nm (I b1 (Int32.toNatClampNeg x1)) fun y2 => nm ((8 : Int32) * y2) fun y3 => nm (y3 + (1 : Int32)) fun y4 => y4
set_option maxHeartbeats 4000000 in
set_option maxRecDepth 100000 in
theorem c_X6_weightOf {l : Launch} {D : va_G} {cy : Nat → ClassId} {L : List Nat} {C : Nat → Nat} {b0 : Nat} {I : hI} {J : hJ} {R : hR} {a0 : Nat} {x1 : Int32} (oI : OkI L C I) (oR : OkR L C R) (m0 : a0 ∈ L) (k0 : C a0 = 6) (h1 : Rg x1 (0) (31)) : CI l yX6_weightOf cX6_weightOf 2 .int 0 D cy L C b0 [.ref a0, .int x1] (I, J, R) (fun r v => v.1 = I ∧ v.2.1 = J ∧ v.2.2 = R ∧ Rg r (1) (401) ∧ F_X6_weightOf a0 x1 I J R = r) := by
  refine CI.mkI (plainFor_of_name (by decide)) (Nat.le_of_ble_eq_true rfl) ?_
  intro p e s m args below meth c ls Q hF ret hH hl
  obtain ⟨hx, hb, -, hml, hown, hts, -⟩ := hF
  have hl : lv_has ls 2 [(0, .ref a0), (1, .int x1)] := hl
  have hH : Hp D cy L C b0 s s.heap I J R s.heap [] := hH
  obtain ⟨TT0, hT⟩ : ∃ TT0, TT0 = F_X6_weightOf a0 x1 I J R := ⟨_, rfl⟩
  have hv := hT
  unfold F_X6_weightOf at hv
  refine lv_bipush (v := 8) hx hb dX6_weightOf_0 (by decide) ?_
  refine lv_aload_n hx hb dX6_weightOf_2 rfl (lv_at hl 0 rfl) ?_
  obtain ⟨b1, mb1, vb1, kb1⟩ := rf_6_2 oR m0 k0
  replace hv := fnR hv vb1
  refine gf_6_2 vb1 hx hb hts hown hH m0 k0 rfl kf_X6_18 dX6_weightOf_3 ?_
  refine lv_iload_n hx hb dX6_weightOf_6 rfl (lv_at hl 1 rfl) ?_
  refine ld_34 hx hb hH mb1 kb1 (Rg_in h1 (by decide)) dX6_weightOf_7 ?_
  refine lv_topi (fun y2 ey2 => ?_)
  have ry2 : Rg y2 (0) (50) := by rw [ey2]; exact rd_34 oI mb1 kb1 (Rg_in h1 (by decide))
  replace hv := fnS hv ey2
  refine lv_imul hx hb dX6_weightOf_8 ?_
  refine lv_topi (fun y3 ey3 => ?_)
  replace hv := fnS hv ey3
  obtain ⟨ty3, ry3⟩ := Rg_mulx (a' := (0)) (b' := (400)) (by decide : Int32.toInt 8 = 8) (rfl : y2.toInt = _) (Rg_c (x := 8) (a := (8)) (b := (8)) (by decide)) ry2 (by decide)
  rw [← ey3] at ty3 ry3
  refine lv_iconst (v := 1) hx hb dX6_weightOf_9 (by decide) ?_
  refine lv_iadd hx hb dX6_weightOf_10 ?_
  refine lv_topi (fun y4 ey4 => ?_)
  replace hv := fnS hv ey4
  obtain ⟨ty4, ry4⟩ := Rg_addx (a' := (1)) (b' := (401)) (rfl : y3.toInt = _) (by decide : Int32.toInt 1 = 1) ry3 (Rg_c (x := 1) (a := (1)) (b := (1)) (by decide)) (by decide)
  rw [← ey4] at ty4 ry4
  exact ret (y4) _ _ _ _ _ _ _ dX6_weightOf_11 hH ⟨rfl, rfl, rfl, ry4, (hT.symm.trans hv)⟩
noncomputable def B_X6_shortenBy_2 (a0 : Nat) (x1 : Int32) (k_2 : hI → hJ → hR → Int32 → (hU)) (I_2 : hI) (J : hJ) (R : hR) (x2_2 : Int32) : hU :=
  (if (49 : Int32) ≤ x2_2 then (I_2, J, R) else nm ((R a0 8).getD 0) fun b4 => nm (x2_2 / (7 : Int32)) fun y5 => nm (y5 * (7 : Int32)) fun y6 => nm (y6 + x1) fun y7 => nm (I_2 b4 (Int32.toNatClampNeg y7)) fun y8 => nm (x1 * (7 : Int32)) fun y9 => nm (x2_2 - x2_2 / (7 : Int32) * (7 : Int32)) fun y10 => nm (y9 + y10) fun y11 => nm (I_2 b4 (Int32.toNatClampNeg y11)) fun y12 => nm (I_2 b4 (Int32.toNatClampNeg x2_2)) fun y13 => nm (y8 + y12) fun y14 => nm (F_J9_min_7cf53 y13 y14) fun y15 => nm (u2 I_2 b4 (Int32.toNatClampNeg x2_2) y15) fun I16 => nm (x2_2 + (1 : Int32)) fun y17 => k_2 I16 J R y17)
noncomputable def F_X6_shortenBy_2 (a0 : Nat) (x1 : Int32) : Nat → hI → hJ → hR → Int32 → (hU) := fun n => Nat.rec (motive := fun _ => hI → hJ → hR → Int32 → (hU)) (fun _ _ _ _ => default) (fun _ k => B_X6_shortenBy_2 a0 x1 k) n
theorem F_X6_shortenBy_2_s {a0 : Nat} {x1 : Int32} {n : Nat} {I_2 : hI} {J : hJ} {R : hR} {x2_2 : Int32} : F_X6_shortenBy_2 a0 x1 (n + 1)  I_2 J R x2_2 = B_X6_shortenBy_2 a0 x1 (F_X6_shortenBy_2 a0 x1 n)  I_2 J R x2_2 := rfl
noncomputable def F_X6_shortenBy (a0 : Nat) (x1 : Int32) (I : hI) (J : hJ) (R : hR) : hU :=
  F_X6_shortenBy_2 a0 x1 ((49 - (0 : Int32).toInt).toNat + 1) I J R (0 : Int32)
def ms_X6_shortenBy : List Nat := [2432]
set_option maxHeartbeats 4000000 in
set_option maxRecDepth 100000 in
theorem c_X6_shortenBy {l : Launch} {D : va_G} {cy : Nat → ClassId} {L : List Nat} {C : Nat → Nat} {b0 : Nat} {I : hI} {J : hJ} {R : hR} {a0 : Nat} {x1 : Int32} (oI : OkI L C I) (oR : OkR L C R) (m0 : a0 ∈ L) (k0 : C a0 = 6) (h1 : Rg x1 (0) (6)) : CV l yX6_shortenBy cX6_shortenBy 5 1 D cy L C b0 [.ref a0, .int x1] (I, J, R) (fun v => Ps L C ms_X6_shortenBy (I, J, R) v ∧ v.2.1 = J ∧ v.2.2 = R ∧ F_X6_shortenBy a0 x1 I J R = v) := by
  refine CV.mk (plainFor_of_name (by decide)) (Nat.le_of_ble_eq_true rfl) ?_
  intro p e s m args below meth c ls Q hF ret hH hl
  obtain ⟨hx, hb, -, hml, hown, hts, -⟩ := hF
  have hl : lv_has ls 5 [(0, .ref a0), (1, .int x1)] := hl
  have hH : Hp D cy L C b0 s s.heap I J R s.heap [] := hH
  have sm : Sm C ms_X6_shortenBy (I, J, R) (I, J, R) := Sm.rf
  obtain ⟨TT0, hT⟩ : ∃ TT0, TT0 = F_X6_shortenBy a0 x1 I J R := ⟨_, rfl⟩
  have hv := hT
  unfold F_X6_shortenBy at hv
  refine lv_iconst (v := 0) hx hb dX6_shortenBy_0 (by decide) ?_
  refine lv_istore_n (lv' := [(2, .int 0), (0, .ref a0), (1, .int x1)]) hx hb dX6_shortenBy_1 rfl hl (by decide) rfl (fun ls hl => ?_)
  have L_2 : ∀ (n_2 : Nat) (I_2 : hI) (H : Heap) (locs : List Loc) (ls : Array Slot) (x2_2 : Int32), (49 - x2_2.toInt).toNat < n_2 → Hp D cy L C b0 s s.heap I_2 J R H locs → TT0 = F_X6_shortenBy_2 a0 x1 n_2 I_2 J R x2_2 → OkI L C I_2 → Sm C ms_X6_shortenBy (I, J, R) (I_2, J, R) → Rg x1 (0) (6) → Rg x2_2 (0) (49) → lv_has ls 5 [(0, .ref a0), (1, .int x1), (2, .int x2_2)] → W p l e (rmD 1) s m args below meth c H locs 0 0 Q (F0 m 2 ls []) := by
    intro n_2
    induction n_2 with
    | zero => intro I_2 H locs ls x2_2 h; exact absurd h (Nat.not_lt_zero _)
    | succ n_2 ih_2 =>
      intro I_2 H locs ls x2_2 hn_2 hH hv oI sm r1_2 r2_2 hl
      replace hv := hv.trans F_X6_shortenBy_2_s
      unfold B_X6_shortenBy_2 at hv
      refine lv_iload_n hx hb dX6_shortenBy_2 rfl (lv_at hl 2 rfl) ?_
      refine lv_bipush (v := 49) hx hb dX6_shortenBy_3 (by decide) ?_
      refine lv_icmp_ge (tgt := 64) hx hb dX6_shortenBy_5 (by decide) (fun q1 => ?_) (fun q1 => ?_)
      · replace hv := fnP hv q1
        have r2 : Rg x2_2 (49) (49) := Rg_lle r2_2 (Rg_le q1) (Rg_c (x := 49) (a := (49)) (b := (49)) (by decide)) (by decide)
        exact ret _ _ _ _ _ _ _ dX6_shortenBy_64 hH ⟨⟨oI, oR, sm⟩, rfl, rfl, (hT.symm.trans hv)⟩
      replace hv := fnN hv q1
      have r3 : Rg x2_2 (0) (48) := Rg_ult r2_2 (Rg_nle q1) (Rg_c (x := 49) (a := (49)) (b := (49)) (by decide)) (by decide)
      refine lv_aload_n hx hb dX6_shortenBy_8 rfl (lv_at hl 0 rfl) ?_
      obtain ⟨b4, mb4, vb4, kb4⟩ := rf_6_8 oR m0 k0
      replace hv := fnR hv vb4
      refine gf_6_8 vb4 hx hb hts hown hH m0 k0 rfl kf_X6_38 dX6_shortenBy_9 ?_
      refine lv_iload_n hx hb dX6_shortenBy_12 rfl (lv_at hl 2 rfl) ?_
      refine lv_bipush (v := 7) hx hb dX6_shortenBy_13 (by decide) ?_
      refine lv_idiv hx hb dX6_shortenBy_15 (by decide) ?_
      refine lv_topi (fun y5 ey5 => ?_)
      replace hv := fnS hv ey5
      obtain ⟨ty5, ry5⟩ := Rg_divx (a' := (0)) (b' := (6)) (rfl : x2_2.toInt = _) (by decide : Int32.toInt 7 = 7) r3 (Rg_c (x := 7) (a := (7)) (b := (7)) (by decide)) (by decide)
      rw [← ey5] at ty5 ry5
      refine lv_bipush (v := 7) hx hb dX6_shortenBy_16 (by decide) ?_
      refine lv_imul hx hb dX6_shortenBy_18 ?_
      refine lv_topi (fun y6 ey6 => ?_)
      replace hv := fnS hv ey6
      obtain ⟨ty6, ry6⟩ := Rg_mulx (a' := (0)) (b' := (42)) (rfl : y5.toInt = _) (by decide : Int32.toInt 7 = 7) ry5 (Rg_c (x := 7) (a := (7)) (b := (7)) (by decide)) (by decide)
      rw [← ey6] at ty6 ry6
      refine lv_iload_n hx hb dX6_shortenBy_19 rfl (lv_at hl 1 rfl) ?_
      refine lv_iadd hx hb dX6_shortenBy_20 ?_
      refine lv_topi (fun y7 ey7 => ?_)
      replace hv := fnS hv ey7
      obtain ⟨ty7, ry7⟩ := Rg_addx (a' := (0)) (b' := (48)) (rfl : y6.toInt = _) (rfl : x1.toInt = _) ry6 r1_2 (by decide)
      rw [← ey7] at ty7 ry7
      refine ld_38 hx hb hH mb4 kb4 (Rg_in ry7 (by decide)) dX6_shortenBy_21 ?_
      refine lv_topi (fun y8 ey8 => ?_)
      replace hv := fnS hv ey8
      refine lv_istore_n (lv' := [(3, .int y8), (0, .ref a0), (1, .int x1), (2, .int x2_2)]) hx hb dX6_shortenBy_22 rfl hl (by decide) rfl (fun ls hl => ?_)
      refine lv_aload_n hx hb dX6_shortenBy_23 rfl (lv_at hl 1 rfl) ?_
      refine gf_6_8 vb4 hx hb hts hown hH m0 k0 rfl kf_X6_38 dX6_shortenBy_24 ?_
      refine lv_iload_n hx hb dX6_shortenBy_27 rfl (lv_at hl 2 rfl) ?_
      refine lv_bipush (v := 7) hx hb dX6_shortenBy_28 (by decide) ?_
      refine lv_imul hx hb dX6_shortenBy_30 ?_
      refine lv_topi (fun y9 ey9 => ?_)
      replace hv := fnS hv ey9
      obtain ⟨ty9, ry9⟩ := Rg_mulx (a' := (0)) (b' := (42)) (rfl : x1.toInt = _) (by decide : Int32.toInt 7 = 7) r1_2 (Rg_c (x := 7) (a := (7)) (b := (7)) (by decide)) (by decide)
      rw [← ey9] at ty9 ry9
      refine lv_iload_n hx hb dX6_shortenBy_31 rfl (lv_at hl 3 rfl) ?_
      refine lv_bipush (v := 7) hx hb dX6_shortenBy_32 (by decide) ?_
      refine lv_irem hx hb dX6_shortenBy_34 (by decide) ?_
      refine lv_topi (fun y10 ey10 => ?_)
      replace hv := fnS hv ey10
      obtain ⟨ty10, ry10⟩ := Rg_remx (b' := (6)) (rfl : x2_2.toInt = _) (by decide : Int32.toInt 7 = 7) r3 (Rg_c (x := 7) (a := (7)) (b := (7)) (by decide)) (by decide)
      rw [← ey10] at ty10 ry10
      refine lv_iadd hx hb dX6_shortenBy_35 ?_
      refine lv_topi (fun y11 ey11 => ?_)
      replace hv := fnS hv ey11
      obtain ⟨ty11, ry11⟩ := Rg_addx (a' := (0)) (b' := (48)) (rfl : y9.toInt = _) (rfl : y10.toInt = _) ry9 ry10 (by decide)
      rw [← ey11] at ty11 ry11
      refine ld_38 hx hb hH mb4 kb4 (Rg_in ry11 (by decide)) dX6_shortenBy_36 ?_
      refine lv_topi (fun y12 ey12 => ?_)
      replace hv := fnS hv ey12
      refine lv_istore (lv' := [(4, .int y12), (3, .int y8), (0, .ref a0), (1, .int x1), (2, .int x2_2)]) hx hb dX6_shortenBy_37 hl (by decide) rfl (fun ls hl => ?_)
      refine lv_aload_n hx hb dX6_shortenBy_39 rfl (lv_at hl 2 rfl) ?_
      refine gf_6_8 vb4 hx hb hts hown hH m0 k0 rfl kf_X6_38 dX6_shortenBy_40 ?_
      refine lv_iload_n hx hb dX6_shortenBy_43 rfl (lv_at hl 4 rfl) ?_
      refine lv_aload_n hx hb dX6_shortenBy_44 rfl (lv_at hl 2 rfl) ?_
      refine gf_6_8 vb4 hx hb hts hown hH m0 k0 rfl kf_X6_38 dX6_shortenBy_45 ?_
      refine lv_iload_n hx hb dX6_shortenBy_48 rfl (lv_at hl 4 rfl) ?_
      refine ld_38 hx hb hH mb4 kb4 (Rg_in r3 (by decide)) dX6_shortenBy_49 ?_
      refine lv_topi (fun y13 ey13 => ?_)
      replace hv := fnS hv ey13
      refine lv_iload_n hx hb dX6_shortenBy_50 rfl (lv_at hl 1 rfl) ?_
      refine lv_iload hx hb dX6_shortenBy_51 (lv_at hl 0 rfl) ?_
      refine lv_iadd hx hb dX6_shortenBy_53 ?_
      refine lv_topi (fun y14 ey14 => ?_)
      replace hv := fnS hv ey14
      refine ca_X6_98 hx hb hml hown hts hH (c_J9_min_7cf53 ) hl.1 (by decide) (Nat.le_of_ble_eq_true rfl) ⟨Nat.zero_le _, Nat.zero_le _⟩ dX6_shortenBy_54 (fun y15 I15 J15 R15 H locs hp hH => ?_)
      obtain ⟨eI15, eJ15, eR15, hf15⟩ := hp
      obtain rfl : I_2 = I15 := eI15.symm
      obtain rfl : J = J15 := eJ15.symm
      obtain rfl : R = R15 := eR15.symm
      replace hv := fnS hv hf15.symm
      refine st_38 hx hb hH mb4 kb4 (Rg_in r3 (by decide)) dX6_shortenBy_57 (fun I16 H locs eI16 hH => ?_)
      replace hv := fnS hv eI16
      have oI : OkI L C I16 := by rw [eI16]; exact wr_38 oI kb4 (Rg_any y15)
      have sm : Sm C ms_X6_shortenBy (I, J, R) (I16, J, R) := by rw [eI16]; exact sm.stI kb4 (mC_arr (by decide) rfl)
      obtain ⟨y17, ey17⟩ : ∃ y : Int32, y = x2_2 + 1 := ⟨_, rfl⟩
      replace hv := fnS hv ey17
      obtain ⟨ty17, ry17⟩ := Rg_addx (a' := (1)) (b' := (49)) (rfl : x2_2.toInt = _) (by decide : Int32.toInt 1 = 1) r3 (Rg_c (x := 1) (a := (1)) (b := (1)) (by decide)) (by decide)
      rw [← ey17] at ty17 ry17
      refine lv_iinc (v := y17) (lv' := [(2, .int y17), (4, .int y12), (3, .int y8), (0, .ref a0), (1, .int x1)]) hx hb dX6_shortenBy_58 hl (k := 4) rfl (by rw [ey17]; rfl) (by decide) rfl (fun ls hl => ?_)
      refine lv_goto (tgt := 2) hx hb dX6_shortenBy_61 (by decide) ?_
      exact ih_2 I16 _ _ _ y17 (lp_up hn_2 ty17 (Rg_ltc r3 (by decide))) hH hv oI sm r1_2 (Rg_w ry17 (by decide)) (lv_sub hl [3, 4, 0] rfl)
  exact L_2 ((49 - (0 : Int32).toInt).toNat + 1) I _ _ _ 0 (Nat.lt_succ_self _) hH hv oI sm h1 (Rg_w (Rg_c (x := 0) (a := (0)) (b := (0)) (by decide)) (by decide)) (lv_sub hl [1, 2, 0] rfl)
noncomputable def F_X6_firstOf_88 (a0 : Nat) (x1 : Int32) (x2 : Int32) (y4 : Int32) (b1 : Nat) (y2 : Int32) (y3 : Int32) (I : hI) (J : hJ) (R : hR) : Int32 :=
  (-1 : Int32)
noncomputable def F_X6_firstOf_82 (a0 : Nat) (x1 : Int32) (x2 : Int32) (y4 : Int32) (b1 : Nat) (y2 : Int32) (y3 : Int32) (x4_15 : Int32) (k_15 : hI → hJ → hR → Int32 → (Int32)) (I : hI) (J : hJ) (R : hR) : Int32 :=
  nm (x4_15 + (1 : Int32)) fun y5 => k_15 I J R y5
noncomputable def B_X6_firstOf_15 (a0 : Nat) (x1 : Int32) (x2 : Int32) (y4 : Int32) (b1 : Nat) (y2 : Int32) (y3 : Int32) (k_15 : hI → hJ → hR → Int32 → (Int32)) (I : hI) (J : hJ) (R : hR) (x4_15 : Int32) : Int32 :=
  nm (I a0 6) fun y6 => (if y6 ≤ x4_15 then F_X6_firstOf_88 a0 x1 x2 y4 b1 y2 y3 I J R else (if (268435456 : Int32) ≤ y4 then F_X6_firstOf_88 a0 x1 x2 y4 b1 y2 y3 I J R else nm ((R a0 5).getD 0) fun b13 => nm (I b13 (Int32.toNatClampNeg x4_15)) fun y14 => (if y14 = (0 : Int32) then F_X6_firstOf_82 a0 x1 x2 y4 b1 y2 y3 x4_15 k_15 I J R else nm ((R a0 0).getD 0) fun b18 => nm (I b18 (Int32.toNatClampNeg x4_15)) fun y19 => (if y19 = x1 then nm (F_X6_weightOf a0 x4_15 I J R) fun y21 => nm ((R a0 1).getD 0) fun b22 => nm (I b22 (Int32.toNatClampNeg x4_15)) fun y23 => nm (y23 * (7 : Int32)) fun y24 => nm (y24 + x2) fun y25 => nm (I b1 (Int32.toNatClampNeg y25)) fun y26 => nm (y21 + y26) fun y27 => (if y27 = y4 then x4_15 else F_X6_firstOf_82 a0 x1 x2 y4 b1 y2 y3 x4_15 k_15 I J R) else F_X6_firstOf_82 a0 x1 x2 y4 b1 y2 y3 x4_15 k_15 I J R))))
noncomputable def F_X6_firstOf_15 (a0 : Nat) (x1 : Int32) (x2 : Int32) (y4 : Int32) (b1 : Nat) (y2 : Int32) (y3 : Int32) : Nat → hI → hJ → hR → Int32 → (Int32) := fun n => Nat.rec (motive := fun _ => hI → hJ → hR → Int32 → (Int32)) (fun _ _ _ _ => default) (fun _ k => B_X6_firstOf_15 a0 x1 x2 y4 b1 y2 y3 k) n
theorem F_X6_firstOf_15_s {a0 : Nat} {x1 : Int32} {x2 : Int32} {y4 : Int32} {b1 : Nat} {y2 : Int32} {y3 : Int32} {n : Nat} {I : hI} {J : hJ} {R : hR} {x4_15 : Int32} : F_X6_firstOf_15 a0 x1 x2 y4 b1 y2 y3 (n + 1)  I J R x4_15 = B_X6_firstOf_15 a0 x1 x2 y4 b1 y2 y3 (F_X6_firstOf_15 a0 x1 x2 y4 b1 y2 y3 n)  I J R x4_15 := rfl
noncomputable def F_X6_firstOf (a0 : Nat) (x1 : Int32) (x2 : Int32) (I : hI) (J : hJ) (R : hR) : Int32 :=
  nm ((R a0 8).getD 0) fun b1 => nm (x1 * (7 : Int32)) fun y2 => nm (y2 + x2) fun y3 => nm (I b1 (Int32.toNatClampNeg y3)) fun y4 => F_X6_firstOf_15 a0 x1 x2 y4 b1 y2 y3 ((32 - (0 : Int32).toInt).toNat + 1) I J R (0 : Int32)
set_option maxHeartbeats 4000000 in
set_option maxRecDepth 100000 in
theorem c_X6_firstOf {l : Launch} {D : va_G} {cy : Nat → ClassId} {L : List Nat} {C : Nat → Nat} {b0 : Nat} {I : hI} {J : hJ} {R : hR} {a0 : Nat} {x1 : Int32} {x2 : Int32} (oI : OkI L C I) (oR : OkR L C R) (m0 : a0 ∈ L) (k0 : C a0 = 6) (h1 : Rg x1 (0) (6)) (h2 : Rg x2 (0) (6)) : CI l yX6_firstOf cX6_firstOf 5 .int 1 D cy L C b0 [.ref a0, .int x1, .int x2] (I, J, R) (fun r v => v.1 = I ∧ v.2.1 = J ∧ v.2.2 = R ∧ Rg r (-1) (31) ∧ F_X6_firstOf a0 x1 x2 I J R = r) := by
  refine CI.mkI (plainFor_of_name (by decide)) (Nat.le_of_ble_eq_true rfl) ?_
  intro p e s m args below meth c ls Q hF ret hH hl
  obtain ⟨hx, hb, -, hml, hown, hts, -⟩ := hF
  have hl : lv_has ls 5 [(0, .ref a0), (1, .int x1), (2, .int x2)] := hl
  have hH : Hp D cy L C b0 s s.heap I J R s.heap [] := hH
  obtain ⟨TT0, hT⟩ : ∃ TT0, TT0 = F_X6_firstOf a0 x1 x2 I J R := ⟨_, rfl⟩
  have hv := hT
  unfold F_X6_firstOf at hv
  refine lv_aload_n hx hb dX6_firstOf_0 rfl (lv_at hl 0 rfl) ?_
  obtain ⟨b1, mb1, vb1, kb1⟩ := rf_6_8 oR m0 k0
  replace hv := fnR hv vb1
  refine gf_6_8 vb1 hx hb hts hown hH m0 k0 rfl kf_X6_38 dX6_firstOf_1 ?_
  refine lv_iload_n hx hb dX6_firstOf_4 rfl (lv_at hl 1 rfl) ?_
  refine lv_bipush (v := 7) hx hb dX6_firstOf_5 (by decide) ?_
  refine lv_imul hx hb dX6_firstOf_7 ?_
  refine lv_topi (fun y2 ey2 => ?_)
  replace hv := fnS hv ey2
  obtain ⟨ty2, ry2⟩ := Rg_mulx (a' := (0)) (b' := (42)) (rfl : x1.toInt = _) (by decide : Int32.toInt 7 = 7) h1 (Rg_c (x := 7) (a := (7)) (b := (7)) (by decide)) (by decide)
  rw [← ey2] at ty2 ry2
  refine lv_iload_n hx hb dX6_firstOf_8 rfl (lv_at hl 2 rfl) ?_
  refine lv_iadd hx hb dX6_firstOf_9 ?_
  refine lv_topi (fun y3 ey3 => ?_)
  replace hv := fnS hv ey3
  obtain ⟨ty3, ry3⟩ := Rg_addx (a' := (0)) (b' := (48)) (rfl : y2.toInt = _) (rfl : x2.toInt = _) ry2 h2 (by decide)
  rw [← ey3] at ty3 ry3
  refine ld_38 hx hb hH mb1 kb1 (Rg_in ry3 (by decide)) dX6_firstOf_10 ?_
  refine lv_topi (fun y4 ey4 => ?_)
  replace hv := fnS hv ey4
  refine lv_istore_n (lv' := [(3, .int y4), (0, .ref a0), (1, .int x1), (2, .int x2)]) hx hb dX6_firstOf_11 rfl hl (by decide) rfl (fun ls hl => ?_)
  refine lv_iconst (v := 0) hx hb dX6_firstOf_12 (by decide) ?_
  refine lv_istore (lv' := [(4, .int 0), (3, .int y4), (0, .ref a0), (1, .int x1), (2, .int x2)]) hx hb dX6_firstOf_13 hl (by decide) rfl (fun ls hl => ?_)
  have L_88 : ∀ (H : Heap) (locs : List Loc) (ls : Array Slot), Hp D cy L C b0 s s.heap I J R H locs → TT0 = F_X6_firstOf_88 a0 x1 x2 y4 b1 y2 y3 I J R → lv_has ls 5 [] → W p l e (rmD 1) s m args below meth c H locs 0 0 Q (F0 m 88 ls []) := by
    intro H locs ls hH hv hl
    unfold F_X6_firstOf_88 at hv
    refine lv_iconst (v := (-1)) hx hb dX6_firstOf_88 (by decide) ?_
    exact ret ((-1)) _ _ _ _ _ _ _ dX6_firstOf_89 hH ⟨rfl, rfl, rfl, (Rg_w (Rg_c (x := (-1)) (a := (-1)) (b := (-1)) (by decide)) (by decide)), (hT.symm.trans hv)⟩
  have L_15 : ∀ (n_15 : Nat) (H : Heap) (locs : List Loc) (ls : Array Slot) (x4_15 : Int32), (32 - x4_15.toInt).toNat < n_15 → Hp D cy L C b0 s s.heap I J R H locs → TT0 = F_X6_firstOf_15 a0 x1 x2 y4 b1 y2 y3 n_15 I J R x4_15 → Rg x1 (0) (6) → Rg x2 (0) (6) → Rg x4_15 (0) (32) → lv_has ls 5 [(0, .ref a0), (1, .int x1), (2, .int x2), (3, .int y4), (4, .int x4_15)] → W p l e (rmD 1) s m args below meth c H locs 0 0 Q (F0 m 15 ls []) := by
    intro n_15
    induction n_15 with
    | zero => intro H locs ls x4_15 h; exact absurd h (Nat.not_lt_zero _)
    | succ n_15 ih_15 =>
      intro H locs ls x4_15 hn_15 hH hv r1_15 r2_15 r4_15 hl
      replace hv := hv.trans F_X6_firstOf_15_s
      unfold B_X6_firstOf_15 at hv
      have L_82 : ∀ (H : Heap) (locs : List Loc) (ls : Array Slot), Hp D cy L C b0 s s.heap I J R H locs → TT0 = F_X6_firstOf_82 a0 x1 x2 y4 b1 y2 y3 x4_15 (F_X6_firstOf_15 a0 x1 x2 y4 b1 y2 y3 n_15) I J R → Rg x1 (0) (6) → Rg x2 (0) (6) → Rg y4 (-2147483648) (268435455) → Rg x4_15 (0) (31) → lv_has ls 5 [(0, .ref a0), (1, .int x1), (2, .int x2), (3, .int y4), (4, .int x4_15)] → W p l e (rmD 1) s m args below meth c H locs 0 0 Q (F0 m 82 ls []) := by
        intro H locs ls hH hv r1_82 r2_82 r3_82 r4_82 hl
        unfold F_X6_firstOf_82 at hv
        obtain ⟨y5, ey5⟩ : ∃ y : Int32, y = x4_15 + 1 := ⟨_, rfl⟩
        replace hv := fnS hv ey5
        obtain ⟨ty5, ry5⟩ := Rg_addx (a' := (1)) (b' := (32)) (rfl : x4_15.toInt = _) (by decide : Int32.toInt 1 = 1) r4_82 (Rg_c (x := 1) (a := (1)) (b := (1)) (by decide)) (by decide)
        rw [← ey5] at ty5 ry5
        refine lv_iinc (v := y5) (lv' := [(4, .int y5), (0, .ref a0), (1, .int x1), (2, .int x2), (3, .int y4)]) hx hb dX6_firstOf_82 hl (k := 4) rfl (by rw [ey5]; rfl) (by decide) rfl (fun ls hl => ?_)
        refine lv_goto (tgt := 15) hx hb dX6_firstOf_85 (by decide) ?_
        exact ih_15 _ _ _ y5 (lp_up hn_15 ty5 (Rg_ltc r4_82 (by decide))) hH hv r1_82 r2_82 (Rg_w ry5 (by decide)) (lv_sub hl [1, 2, 3, 4, 0] rfl)
      refine lv_iload hx hb dX6_firstOf_15 (lv_at hl 4 rfl) ?_
      refine lv_aload_n hx hb dX6_firstOf_17 rfl (lv_at hl 0 rfl) ?_
      refine gf_6_6 hx hb hts hown hH m0 k0 rfl kf_X6_31 dX6_firstOf_18 ?_
      refine lv_topi (fun y6 ey6 => ?_)
      have ry6 : Rg y6 (0) (32) := by rw [ey6]; exact rf_6_6 oI m0 k0
      replace hv := fnS hv ey6
      refine lv_icmp_ge (tgt := 88) hx hb dX6_firstOf_21 (by decide) (fun q7 => ?_) (fun q7 => ?_)
      · replace hv := fnP hv q7
        exact L_88 _ _ _ hH hv (lv_sub hl [] rfl)
      replace hv := fnN hv q7
      have r8 : Rg x4_15 (0) (31) := Rg_ult r4_15 (Rg_nle q7) ry6 (by decide)
      have r9 : Rg y6 (1) (32) := Rg_llt ry6 (Rg_nle q7) r4_15 (by decide)
      refine lv_iload_n hx hb dX6_firstOf_24 rfl (lv_at hl 3 rfl) ?_
      refine lv_ldc (v := 268435456) hx hb hown (hts _ kk_X6_74) dX6_firstOf_25 ?_
      refine lv_icmp_ge (tgt := 88) hx hb dX6_firstOf_27 (by decide) (fun q10 => ?_) (fun q10 => ?_)
      · replace hv := fnP hv q10
        have r11 : Rg y4 (268435456) (2147483647) := Rg_lle (Rg_any y4) (Rg_le q10) (Rg_c (x := 268435456) (a := (268435456)) (b := (268435456)) (by decide)) (by decide)
        exact L_88 _ _ _ hH hv (lv_sub hl [] rfl)
      replace hv := fnN hv q10
      have r12 : Rg y4 (-2147483648) (268435455) := Rg_ult (Rg_any y4) (Rg_nle q10) (Rg_c (x := 268435456) (a := (268435456)) (b := (268435456)) (by decide)) (by decide)
      refine lv_aload_n hx hb dX6_firstOf_30 rfl (lv_at hl 0 rfl) ?_
      obtain ⟨b13, mb13, vb13, kb13⟩ := rf_6_5 oR m0 k0
      replace hv := fnR hv vb13
      refine gf_6_5 vb13 hx hb hts hown hH m0 k0 rfl kf_X6_27 dX6_firstOf_31 ?_
      refine lv_iload hx hb dX6_firstOf_34 (lv_at hl 4 rfl) ?_
      refine ld_37 hx hb hH mb13 kb13 (Rg_in r8 (by decide)) dX6_firstOf_36 ?_
      refine lv_topi (fun y14 ey14 => ?_)
      have ry14 : Rg y14 (0) (1) := by rw [ey14]; exact rd_37 oI mb13 kb13 (Rg_in r8 (by decide))
      replace hv := fnS hv ey14
      refine lv_if_eq (tgt := 82) hx hb dX6_firstOf_37 (by decide) (fun q15 => ?_) (fun q15 => ?_)
      · replace hv := fnP hv q15
        have r16 : Rg y14 (0) (0) := Rg_both ry14 (Rg_eqv q15 (Rg_c (x := 0) (a := (0)) (b := (0)) (by decide))) (by decide)
        exact L_82 _ _ _ hH hv r1_15 r2_15 r12 r8 (lv_sub hl [0, 1, 2, 3, 4] rfl)
      replace hv := fnN hv q15
      have r17 : Rg y14 (1) (1) := Rg_nelo ry14 (Rg_ne q15) (Rg_c (x := 0) (a := (0)) (b := (0)) (by decide)) (by decide)
      refine lv_aload_n hx hb dX6_firstOf_40 rfl (lv_at hl 0 rfl) ?_
      obtain ⟨b18, mb18, vb18, kb18⟩ := rf_6_0 oR m0 k0
      replace hv := fnR hv vb18
      refine gf_6_0 vb18 hx hb hts hown hH m0 k0 rfl kf_X6_11 dX6_firstOf_41 ?_
      refine lv_iload hx hb dX6_firstOf_44 (lv_at hl 4 rfl) ?_
      refine ld_32 hx hb hH mb18 kb18 (Rg_in r8 (by decide)) dX6_firstOf_46 ?_
      refine lv_topi (fun y19 ey19 => ?_)
      have ry19 : Rg y19 (0) (6) := by rw [ey19]; exact rd_32 oI mb18 kb18 (Rg_in r8 (by decide))
      replace hv := fnS hv ey19
      refine lv_iload_n hx hb dX6_firstOf_47 rfl (lv_at hl 1 rfl) ?_
      refine lv_icmp_ne (tgt := 82) hx hb dX6_firstOf_48 (by decide) (fun q20 => ?_) (fun q20 => ?_)
      · replace hv := fnN hv q20
        exact L_82 _ _ _ hH hv r1_15 r2_15 r12 r8 (lv_sub hl [0, 1, 2, 3, 4] rfl)
      replace hv := fnP hv q20
      refine lv_aload_n hx hb dX6_firstOf_51 rfl (lv_at hl 0 rfl) ?_
      refine lv_iload hx hb dX6_firstOf_52 (lv_at hl 4 rfl) ?_
      refine ca_X6_94 hx hb hml hown hts hH (c_X6_weightOf oI oR m0 k0 r8) hl.1 m0 k0 rfl (by decide) (Nat.le_of_ble_eq_true rfl) ⟨Nat.zero_le _, Nat.zero_le _⟩ dX6_firstOf_54 (fun y21 I21 J21 R21 H locs hp hH => ?_)
      obtain ⟨eI21, eJ21, eR21, ry21, hf21⟩ := hp
      obtain rfl : I = I21 := eI21.symm
      obtain rfl : J = J21 := eJ21.symm
      obtain rfl : R = R21 := eR21.symm
      replace hv := fnS hv hf21.symm
      refine lv_aload_n hx hb dX6_firstOf_57 rfl (lv_at hl 0 rfl) ?_
      refine gf_6_8 vb1 hx hb hts hown hH m0 k0 rfl kf_X6_38 dX6_firstOf_58 ?_
      refine lv_aload_n hx hb dX6_firstOf_61 rfl (lv_at hl 0 rfl) ?_
      obtain ⟨b22, mb22, vb22, kb22⟩ := rf_6_1 oR m0 k0
      replace hv := fnR hv vb22
      refine gf_6_1 vb22 hx hb hts hown hH m0 k0 rfl kf_X6_15 dX6_firstOf_62 ?_
      refine lv_iload hx hb dX6_firstOf_65 (lv_at hl 4 rfl) ?_
      refine ld_33 hx hb hH mb22 kb22 (Rg_in r8 (by decide)) dX6_firstOf_67 ?_
      refine lv_topi (fun y23 ey23 => ?_)
      have ry23 : Rg y23 (0) (6) := by rw [ey23]; exact rd_33 oI mb22 kb22 (Rg_in r8 (by decide))
      replace hv := fnS hv ey23
      refine lv_bipush (v := 7) hx hb dX6_firstOf_68 (by decide) ?_
      refine lv_imul hx hb dX6_firstOf_70 ?_
      refine lv_topi (fun y24 ey24 => ?_)
      replace hv := fnS hv ey24
      obtain ⟨ty24, ry24⟩ := Rg_mulx (a' := (0)) (b' := (42)) (rfl : y23.toInt = _) (by decide : Int32.toInt 7 = 7) ry23 (Rg_c (x := 7) (a := (7)) (b := (7)) (by decide)) (by decide)
      rw [← ey24] at ty24 ry24
      refine lv_iload_n hx hb dX6_firstOf_71 rfl (lv_at hl 2 rfl) ?_
      refine lv_iadd hx hb dX6_firstOf_72 ?_
      refine lv_topi (fun y25 ey25 => ?_)
      replace hv := fnS hv ey25
      obtain ⟨ty25, ry25⟩ := Rg_addx (a' := (0)) (b' := (48)) (rfl : y24.toInt = _) (rfl : x2.toInt = _) ry24 r2_15 (by decide)
      rw [← ey25] at ty25 ry25
      refine ld_38 hx hb hH mb1 kb1 (Rg_in ry25 (by decide)) dX6_firstOf_73 ?_
      refine lv_topi (fun y26 ey26 => ?_)
      replace hv := fnS hv ey26
      refine lv_iadd hx hb dX6_firstOf_74 ?_
      refine lv_topi (fun y27 ey27 => ?_)
      replace hv := fnS hv ey27
      refine lv_iload_n hx hb dX6_firstOf_75 rfl (lv_at hl 3 rfl) ?_
      refine lv_icmp_ne (tgt := 82) hx hb dX6_firstOf_76 (by decide) (fun q28 => ?_) (fun q28 => ?_)
      · replace hv := fnN hv q28
        exact L_82 _ _ _ hH hv r1_15 r2_15 r12 r8 (lv_sub hl [0, 1, 2, 3, 4] rfl)
      replace hv := fnP hv q28
      have r29 : Rg y27 (-2147483648) (268435455) := Rg_both (Rg_any y27) (Rg_eqv q28 r12) (by decide)
      refine lv_iload hx hb dX6_firstOf_79 (lv_at hl 4 rfl) ?_
      exact ret (x4_15) _ _ _ _ _ _ _ dX6_firstOf_81 hH ⟨rfl, rfl, rfl, (Rg_w r8 (by decide)), (hT.symm.trans hv)⟩
  exact L_15 ((32 - (0 : Int32).toInt).toNat + 1) _ _ _ 0 (Nat.lt_succ_self _) hH hv h1 h2 (Rg_w (Rg_c (x := 0) (a := (0)) (b := (0)) (by decide)) (by decide)) (lv_sub hl [2, 3, 4, 1, 0] rfl)
noncomputable def B_X6_measure_118 (a0 : Nat) (b1 : Nat) (k_118 : hI → hJ → hR → Int32 → (hU)) (I_118 : hI) (J : hJ) (R : hR) (x1_118 : Int32) : hU :=
  (if (49 : Int32) ≤ x1_118 then (I_118, J, R) else nm ((R a0 9).getD 0) fun b6 => nm (x1_118 / (7 : Int32)) fun y7 => nm (x1_118 - x1_118 / (7 : Int32) * (7 : Int32)) fun y8 => nm (F_X6_firstOf a0 y7 y8 I_118 J R) fun y9 => nm (u2 I_118 b6 (Int32.toNatClampNeg x1_118) y9) fun I10 => nm (x1_118 + (1 : Int32)) fun y11 => k_118 I10 J R y11)
noncomputable def F_X6_measure_118 (a0 : Nat) (b1 : Nat) : Nat → hI → hJ → hR → Int32 → (hU) := fun n => Nat.rec (motive := fun _ => hI → hJ → hR → Int32 → (hU)) (fun _ _ _ _ => default) (fun _ k => B_X6_measure_118 a0 b1 k) n
theorem F_X6_measure_118_s {a0 : Nat} {b1 : Nat} {n : Nat} {I_118 : hI} {J : hJ} {R : hR} {x1_118 : Int32} : F_X6_measure_118 a0 b1 (n + 1)  I_118 J R x1_118 = B_X6_measure_118 a0 b1 (F_X6_measure_118 a0 b1 n)  I_118 J R x1_118 := rfl
noncomputable def B_X6_measure_99 (a0 : Nat) (b1 : Nat) (k_99 : hI → hJ → hR → Int32 → (hU)) (I_99 : hI) (J : hJ) (R : hR) (x1_99 : Int32) : hU :=
  (if (7 : Int32) ≤ x1_99 then F_X6_measure_118 a0 b1 ((49 - (0 : Int32).toInt).toNat + 1) I_99 J R (0 : Int32) else nmW (F_X6_shortenBy a0 x1_99 I_99 J R) fun I15 _ _ => nm (x1_99 + (1 : Int32)) fun y16 => k_99 I15 J R y16)
noncomputable def F_X6_measure_99 (a0 : Nat) (b1 : Nat) : Nat → hI → hJ → hR → Int32 → (hU) := fun n => Nat.rec (motive := fun _ => hI → hJ → hR → Int32 → (hU)) (fun _ _ _ _ => default) (fun _ k => B_X6_measure_99 a0 b1 k) n
theorem F_X6_measure_99_s {a0 : Nat} {b1 : Nat} {n : Nat} {I_99 : hI} {J : hJ} {R : hR} {x1_99 : Int32} : F_X6_measure_99 a0 b1 (n + 1)  I_99 J R x1_99 = B_X6_measure_99 a0 b1 (F_X6_measure_99 a0 b1 n)  I_99 J R x1_99 := rfl
noncomputable def F_X6_measure_91 (a0 : Nat) (b1 : Nat) (x1_37 : Int32) (k_37 : hI → hJ → hR → Int32 → (hU)) (I_91 : hI) (J : hJ) (R : hR) : hU :=
  nm (x1_37 + (1 : Int32)) fun y17 => k_37 I_91 J R y17
noncomputable def B_X6_measure_37 (a0 : Nat) (b1 : Nat) (k_37 : hI → hJ → hR → Int32 → (hU)) (I_37 : hI) (J : hJ) (R : hR) (x1_37 : Int32) : hU :=
  nm (I_37 a0 6) fun y18 => (if y18 ≤ x1_37 then F_X6_measure_99 a0 b1 ((7 - (0 : Int32).toInt).toNat + 1) I_37 J R (0 : Int32) else nm ((R a0 5).getD 0) fun b22 => nm (I_37 b22 (Int32.toNatClampNeg x1_37)) fun y23 => (if y23 = (0 : Int32) then F_X6_measure_91 a0 b1 x1_37 k_37 I_37 J R else nm ((R a0 0).getD 0) fun b27 => nm (I_37 b27 (Int32.toNatClampNeg x1_37)) fun y28 => nm (y28 * (7 : Int32)) fun y29 => nm ((R a0 1).getD 0) fun b30 => nm (I_37 b30 (Int32.toNatClampNeg x1_37)) fun y31 => nm (y29 + y31) fun y32 => nm (I_37 b1 (Int32.toNatClampNeg y32)) fun y33 => nm (F_X6_weightOf a0 x1_37 I_37 J R) fun y34 => nm (F_J9_min_7cf53 y33 y34) fun y35 => nm (u2 I_37 b1 (Int32.toNatClampNeg y32) y35) fun I36 => F_X6_measure_91 a0 b1 x1_37 k_37 I36 J R))
noncomputable def F_X6_measure_37 (a0 : Nat) (b1 : Nat) : Nat → hI → hJ → hR → Int32 → (hU) := fun n => Nat.rec (motive := fun _ => hI → hJ → hR → Int32 → (hU)) (fun _ _ _ _ => default) (fun _ k => B_X6_measure_37 a0 b1 k) n
theorem F_X6_measure_37_s {a0 : Nat} {b1 : Nat} {n : Nat} {I_37 : hI} {J : hJ} {R : hR} {x1_37 : Int32} : F_X6_measure_37 a0 b1 (n + 1)  I_37 J R x1_37 = B_X6_measure_37 a0 b1 (F_X6_measure_37 a0 b1 n)  I_37 J R x1_37 := rfl
noncomputable def B_X6_measure_11 (a0 : Nat) (b1 : Nat) (k_11 : hI → hJ → hR → Int32 → (hU)) (I_11 : hI) (J : hJ) (R : hR) (x1_11 : Int32) : hU :=
  (if (7 : Int32) ≤ x1_11 then F_X6_measure_37 a0 b1 ((32 - (0 : Int32).toInt).toNat + 1) I_11 J R (0 : Int32) else nm (x1_11 * (7 : Int32)) fun y40 => nm (y40 + x1_11) fun y41 => nm (u2 I_11 b1 (Int32.toNatClampNeg y41) (0 : Int32)) fun I42 => nm (x1_11 + (1 : Int32)) fun y43 => k_11 I42 J R y43)
noncomputable def F_X6_measure_11 (a0 : Nat) (b1 : Nat) : Nat → hI → hJ → hR → Int32 → (hU) := fun n => Nat.rec (motive := fun _ => hI → hJ → hR → Int32 → (hU)) (fun _ _ _ _ => default) (fun _ k => B_X6_measure_11 a0 b1 k) n
theorem F_X6_measure_11_s {a0 : Nat} {b1 : Nat} {n : Nat} {I_11 : hI} {J : hJ} {R : hR} {x1_11 : Int32} : F_X6_measure_11 a0 b1 (n + 1)  I_11 J R x1_11 = B_X6_measure_11 a0 b1 (F_X6_measure_11 a0 b1 n)  I_11 J R x1_11 := rfl
noncomputable def F_X6_measure (a0 : Nat) (I : hI) (J : hJ) (R : hR) : hU :=
  nm ((R a0 8).getD 0) fun b1 => nmW (F_J7_fill_38 b1 (268435456 : Int32) I J R) fun I2 _ _ => F_X6_measure_11 a0 b1 ((7 - (0 : Int32).toInt).toNat + 1) I2 J R (0 : Int32)
def ms_X6_measure : List Nat := [2432, 2496]
set_option maxHeartbeats 4000000 in
set_option maxRecDepth 100000 in
theorem c_X6_measure {l : Launch} {D : va_G} {cy : Nat → ClassId} {L : List Nat} {C : Nat → Nat} {b0 : Nat} {I : hI} {J : hJ} {R : hR} {a0 : Nat} (oI : OkI L C I) (oR : OkR L C R) (m0 : a0 ∈ L) (k0 : C a0 = 6) : CV l yX6_measure cX6_measure 3 2 D cy L C b0 [.ref a0] (I, J, R) (fun v => Ps L C ms_X6_measure (I, J, R) v ∧ v.2.1 = J ∧ v.2.2 = R ∧ F_X6_measure a0 I J R = v) := by
  refine CV.mk (plainFor_of_name (by decide)) (Nat.le_of_ble_eq_true rfl) ?_
  intro p e s m args below meth c ls Q hF ret hH hl
  obtain ⟨hx, hb, -, hml, hown, hts, -⟩ := hF
  have hl : lv_has ls 3 [(0, .ref a0)] := hl
  have hH : Hp D cy L C b0 s s.heap I J R s.heap [] := hH
  have sm : Sm C ms_X6_measure (I, J, R) (I, J, R) := Sm.rf
  obtain ⟨TT0, hT⟩ : ∃ TT0, TT0 = F_X6_measure a0 I J R := ⟨_, rfl⟩
  have hv := hT
  unfold F_X6_measure at hv
  refine lv_aload_n hx hb dX6_measure_0 rfl (lv_at hl 0 rfl) ?_
  obtain ⟨b1, mb1, vb1, kb1⟩ := rf_6_8 oR m0 k0
  replace hv := fnR hv vb1
  refine gf_6_8 vb1 hx hb hts hown hH m0 k0 rfl kf_X6_38 dX6_measure_1 ?_
  refine lv_ldc (v := 268435456) hx hb hown (hts _ kk_X6_74) dX6_measure_4 ?_
  refine ca_X6_88 hx hb hml hown hts hH (c_J7_fill_38 oI oR mb1 kb1) hl.1 (by decide) (Nat.le_of_ble_eq_true rfl) ⟨Nat.zero_le _, Nat.zero_le _⟩ dX6_measure_6 (fun I2 J2 R2 H locs hp hH => ?_)
  obtain ⟨⟨oI, -, sc2⟩, eJ2, eR2, hf2⟩ := hp
  obtain rfl : J = J2 := eJ2.symm
  obtain rfl : R = R2 := eR2.symm
  replace hv := fnW hv hf2
  have sm : Sm C ms_X6_measure (I, J, R) (I2, J, R) := sm.tr sc2 rfl
  refine lv_iconst (v := 0) hx hb dX6_measure_9 (by decide) ?_
  refine lv_istore_n (lv' := [(1, .int 0), (0, .ref a0)]) hx hb dX6_measure_10 rfl hl (by decide) rfl (fun ls hl => ?_)
  have L_118 : ∀ (n_118 : Nat) (I_118 : hI) (H : Heap) (locs : List Loc) (ls : Array Slot) (x1_118 : Int32), (49 - x1_118.toInt).toNat < n_118 → Hp D cy L C b0 s s.heap I_118 J R H locs → TT0 = F_X6_measure_118 a0 b1 n_118 I_118 J R x1_118 → OkI L C I_118 → Sm C ms_X6_measure (I, J, R) (I_118, J, R) → Rg x1_118 (0) (49) → lv_has ls 3 [(0, .ref a0), (1, .int x1_118)] → W p l e (rmD 2) s m args below meth c H locs 0 0 Q (F0 m 118 ls []) := by
    intro n_118
    induction n_118 with
    | zero => intro I_118 H locs ls x1_118 h; exact absurd h (Nat.not_lt_zero _)
    | succ n_118 ih_118 =>
      intro I_118 H locs ls x1_118 hn_118 hH hv oI sm r1_118 hl
      replace hv := hv.trans F_X6_measure_118_s
      unfold B_X6_measure_118 at hv
      refine lv_iload_n hx hb dX6_measure_118 rfl (lv_at hl 1 rfl) ?_
      refine lv_bipush (v := 49) hx hb dX6_measure_119 (by decide) ?_
      refine lv_icmp_ge (tgt := 148) hx hb dX6_measure_121 (by decide) (fun q3 => ?_) (fun q3 => ?_)
      · replace hv := fnP hv q3
        have r4 : Rg x1_118 (49) (49) := Rg_lle r1_118 (Rg_le q3) (Rg_c (x := 49) (a := (49)) (b := (49)) (by decide)) (by decide)
        exact ret _ _ _ _ _ _ _ dX6_measure_148 hH ⟨⟨oI, oR, sm⟩, rfl, rfl, (hT.symm.trans hv)⟩
      replace hv := fnN hv q3
      have r5 : Rg x1_118 (0) (48) := Rg_ult r1_118 (Rg_nle q3) (Rg_c (x := 49) (a := (49)) (b := (49)) (by decide)) (by decide)
      refine lv_aload_n hx hb dX6_measure_124 rfl (lv_at hl 0 rfl) ?_
      obtain ⟨b6, mb6, vb6, kb6⟩ := rf_6_9 oR m0 k0
      replace hv := fnR hv vb6
      refine gf_6_9 vb6 hx hb hts hown hH m0 k0 rfl kf_X6_41 dX6_measure_125 ?_
      refine lv_iload_n hx hb dX6_measure_128 rfl (lv_at hl 1 rfl) ?_
      refine lv_aload_n hx hb dX6_measure_129 rfl (lv_at hl 0 rfl) ?_
      refine lv_iload_n hx hb dX6_measure_130 rfl (lv_at hl 1 rfl) ?_
      refine lv_bipush (v := 7) hx hb dX6_measure_131 (by decide) ?_
      refine lv_idiv hx hb dX6_measure_133 (by decide) ?_
      refine lv_topi (fun y7 ey7 => ?_)
      replace hv := fnS hv ey7
      obtain ⟨ty7, ry7⟩ := Rg_divx (a' := (0)) (b' := (6)) (rfl : x1_118.toInt = _) (by decide : Int32.toInt 7 = 7) r5 (Rg_c (x := 7) (a := (7)) (b := (7)) (by decide)) (by decide)
      rw [← ey7] at ty7 ry7
      refine lv_iload_n hx hb dX6_measure_134 rfl (lv_at hl 1 rfl) ?_
      refine lv_bipush (v := 7) hx hb dX6_measure_135 (by decide) ?_
      refine lv_irem hx hb dX6_measure_137 (by decide) ?_
      refine lv_topi (fun y8 ey8 => ?_)
      replace hv := fnS hv ey8
      obtain ⟨ty8, ry8⟩ := Rg_remx (b' := (6)) (rfl : x1_118.toInt = _) (by decide : Int32.toInt 7 = 7) r5 (Rg_c (x := 7) (a := (7)) (b := (7)) (by decide)) (by decide)
      rw [← ey8] at ty8 ry8
      refine ca_X6_108 hx hb hml hown hts hH (c_X6_firstOf oI oR m0 k0 ry7 ry8) hl.1 m0 k0 rfl (by decide) (Nat.le_of_ble_eq_true rfl) ⟨Nat.zero_le _, Nat.zero_le _⟩ dX6_measure_138 (fun y9 I9 J9 R9 H locs hp hH => ?_)
      obtain ⟨eI9, eJ9, eR9, ry9, hf9⟩ := hp
      obtain rfl : I_118 = I9 := eI9.symm
      obtain rfl : J = J9 := eJ9.symm
      obtain rfl : R = R9 := eR9.symm
      replace hv := fnS hv hf9.symm
      refine st_39 hx hb hH mb6 kb6 (Rg_in r5 (by decide)) dX6_measure_141 (fun I10 H locs eI10 hH => ?_)
      replace hv := fnS hv eI10
      have oI : OkI L C I10 := by rw [eI10]; exact wr_39 oI kb6 ry9
      have sm : Sm C ms_X6_measure (I, J, R) (I10, J, R) := by rw [eI10]; exact sm.stI kb6 (mC_arr (by decide) rfl)
      obtain ⟨y11, ey11⟩ : ∃ y : Int32, y = x1_118 + 1 := ⟨_, rfl⟩
      replace hv := fnS hv ey11
      obtain ⟨ty11, ry11⟩ := Rg_addx (a' := (1)) (b' := (49)) (rfl : x1_118.toInt = _) (by decide : Int32.toInt 1 = 1) r5 (Rg_c (x := 1) (a := (1)) (b := (1)) (by decide)) (by decide)
      rw [← ey11] at ty11 ry11
      refine lv_iinc (v := y11) (lv' := [(1, .int y11), (0, .ref a0)]) hx hb dX6_measure_142 hl (k := 1) rfl (by rw [ey11]; rfl) (by decide) rfl (fun ls hl => ?_)
      refine lv_goto (tgt := 118) hx hb dX6_measure_145 (by decide) ?_
      exact ih_118 I10 _ _ _ y11 (lp_up hn_118 ty11 (Rg_ltc r5 (by decide))) hH hv oI sm (Rg_w ry11 (by decide)) (lv_sub hl [1, 0] rfl)
  have L_99 : ∀ (n_99 : Nat) (I_99 : hI) (H : Heap) (locs : List Loc) (ls : Array Slot) (x1_99 : Int32), (7 - x1_99.toInt).toNat < n_99 → Hp D cy L C b0 s s.heap I_99 J R H locs → TT0 = F_X6_measure_99 a0 b1 n_99 I_99 J R x1_99 → OkI L C I_99 → Sm C ms_X6_measure (I, J, R) (I_99, J, R) → Rg x1_99 (0) (7) → lv_has ls 3 [(0, .ref a0), (1, .int x1_99)] → W p l e (rmD 2) s m args below meth c H locs 0 0 Q (F0 m 99 ls []) := by
    intro n_99
    induction n_99 with
    | zero => intro I_99 H locs ls x1_99 h; exact absurd h (Nat.not_lt_zero _)
    | succ n_99 ih_99 =>
      intro I_99 H locs ls x1_99 hn_99 hH hv oI sm r1_99 hl
      replace hv := hv.trans F_X6_measure_99_s
      unfold B_X6_measure_99 at hv
      refine lv_iload_n hx hb dX6_measure_99 rfl (lv_at hl 1 rfl) ?_
      refine lv_bipush (v := 7) hx hb dX6_measure_100 (by decide) ?_
      refine lv_icmp_ge (tgt := 116) hx hb dX6_measure_102 (by decide) (fun q12 => ?_) (fun q12 => ?_)
      · replace hv := fnP hv q12
        have r13 : Rg x1_99 (7) (7) := Rg_lle r1_99 (Rg_le q12) (Rg_c (x := 7) (a := (7)) (b := (7)) (by decide)) (by decide)
        refine lv_iconst (v := 0) hx hb dX6_measure_116 (by decide) ?_
        refine lv_istore_n (lv' := [(1, .int 0), (0, .ref a0)]) hx hb dX6_measure_117 rfl hl (by decide) rfl (fun ls hl => ?_)
        exact L_118 ((49 - (0 : Int32).toInt).toNat + 1) I_99 _ _ _ 0 (Nat.lt_succ_self _) hH hv oI sm (Rg_w (Rg_c (x := 0) (a := (0)) (b := (0)) (by decide)) (by decide)) (lv_sub hl [1, 0] rfl)
      replace hv := fnN hv q12
      have r14 : Rg x1_99 (0) (6) := Rg_ult r1_99 (Rg_nle q12) (Rg_c (x := 7) (a := (7)) (b := (7)) (by decide)) (by decide)
      refine lv_aload_n hx hb dX6_measure_105 rfl (lv_at hl 0 rfl) ?_
      refine lv_iload_n hx hb dX6_measure_106 rfl (lv_at hl 1 rfl) ?_
      refine ca_X6_104 hx hb hml hown hts hH (c_X6_shortenBy oI oR m0 k0 r14) hl.1 m0 k0 rfl (by decide) (Nat.le_of_ble_eq_true rfl) ⟨Nat.zero_le _, Nat.zero_le _⟩ dX6_measure_107 (fun I15 J15 R15 H locs hp hH => ?_)
      obtain ⟨⟨oI, -, sc15⟩, eJ15, eR15, hf15⟩ := hp
      obtain rfl : J = J15 := eJ15.symm
      obtain rfl : R = R15 := eR15.symm
      replace hv := fnW hv hf15
      have sm : Sm C ms_X6_measure (I, J, R) (I15, J, R) := sm.tr sc15 rfl
      obtain ⟨y16, ey16⟩ : ∃ y : Int32, y = x1_99 + 1 := ⟨_, rfl⟩
      replace hv := fnS hv ey16
      obtain ⟨ty16, ry16⟩ := Rg_addx (a' := (1)) (b' := (7)) (rfl : x1_99.toInt = _) (by decide : Int32.toInt 1 = 1) r14 (Rg_c (x := 1) (a := (1)) (b := (1)) (by decide)) (by decide)
      rw [← ey16] at ty16 ry16
      refine lv_iinc (v := y16) (lv' := [(1, .int y16), (0, .ref a0)]) hx hb dX6_measure_110 hl (k := 1) rfl (by rw [ey16]; rfl) (by decide) rfl (fun ls hl => ?_)
      refine lv_goto (tgt := 99) hx hb dX6_measure_113 (by decide) ?_
      exact ih_99 I15 _ _ _ y16 (lp_up hn_99 ty16 (Rg_ltc r14 (by decide))) hH hv oI sm (Rg_w ry16 (by decide)) (lv_sub hl [1, 0] rfl)
  have L_37 : ∀ (n_37 : Nat) (I_37 : hI) (H : Heap) (locs : List Loc) (ls : Array Slot) (x1_37 : Int32), (32 - x1_37.toInt).toNat < n_37 → Hp D cy L C b0 s s.heap I_37 J R H locs → TT0 = F_X6_measure_37 a0 b1 n_37 I_37 J R x1_37 → OkI L C I_37 → Sm C ms_X6_measure (I, J, R) (I_37, J, R) → Rg x1_37 (0) (32) → lv_has ls 3 [(0, .ref a0), (1, .int x1_37)] → W p l e (rmD 2) s m args below meth c H locs 0 0 Q (F0 m 37 ls []) := by
    intro n_37
    induction n_37 with
    | zero => intro I_37 H locs ls x1_37 h; exact absurd h (Nat.not_lt_zero _)
    | succ n_37 ih_37 =>
      intro I_37 H locs ls x1_37 hn_37 hH hv oI sm r1_37 hl
      replace hv := hv.trans F_X6_measure_37_s
      unfold B_X6_measure_37 at hv
      have L_91 : ∀ (I_91 : hI) (H : Heap) (locs : List Loc) (ls : Array Slot), Hp D cy L C b0 s s.heap I_91 J R H locs → TT0 = F_X6_measure_91 a0 b1 x1_37 (F_X6_measure_37 a0 b1 n_37) I_91 J R → OkI L C I_91 → Sm C ms_X6_measure (I, J, R) (I_91, J, R) → Rg x1_37 (0) (31) → lv_has ls 3 [(0, .ref a0), (1, .int x1_37)] → W p l e (rmD 2) s m args below meth c H locs 0 0 Q (F0 m 91 ls []) := by
        intro I_91 H locs ls hH hv oI sm r1_91 hl
        unfold F_X6_measure_91 at hv
        obtain ⟨y17, ey17⟩ : ∃ y : Int32, y = x1_37 + 1 := ⟨_, rfl⟩
        replace hv := fnS hv ey17
        obtain ⟨ty17, ry17⟩ := Rg_addx (a' := (1)) (b' := (32)) (rfl : x1_37.toInt = _) (by decide : Int32.toInt 1 = 1) r1_91 (Rg_c (x := 1) (a := (1)) (b := (1)) (by decide)) (by decide)
        rw [← ey17] at ty17 ry17
        refine lv_iinc (v := y17) (lv' := [(1, .int y17), (0, .ref a0)]) hx hb dX6_measure_91 hl (k := 1) rfl (by rw [ey17]; rfl) (by decide) rfl (fun ls hl => ?_)
        refine lv_goto (tgt := 37) hx hb dX6_measure_94 (by decide) ?_
        exact ih_37 I_91 _ _ _ y17 (lp_up hn_37 ty17 (Rg_ltc r1_91 (by decide))) hH hv oI sm (Rg_w ry17 (by decide)) (lv_sub hl [1, 0] rfl)
      refine lv_iload_n hx hb dX6_measure_37 rfl (lv_at hl 1 rfl) ?_
      refine lv_aload_n hx hb dX6_measure_38 rfl (lv_at hl 0 rfl) ?_
      refine gf_6_6 hx hb hts hown hH m0 k0 rfl kf_X6_31 dX6_measure_39 ?_
      refine lv_topi (fun y18 ey18 => ?_)
      have ry18 : Rg y18 (0) (32) := by rw [ey18]; exact rf_6_6 oI m0 k0
      replace hv := fnS hv ey18
      refine lv_icmp_ge (tgt := 97) hx hb dX6_measure_42 (by decide) (fun q19 => ?_) (fun q19 => ?_)
      · replace hv := fnP hv q19
        refine lv_iconst (v := 0) hx hb dX6_measure_97 (by decide) ?_
        refine lv_istore_n (lv' := [(1, .int 0), (0, .ref a0)]) hx hb dX6_measure_98 rfl hl (by decide) rfl (fun ls hl => ?_)
        exact L_99 ((7 - (0 : Int32).toInt).toNat + 1) I_37 _ _ _ 0 (Nat.lt_succ_self _) hH hv oI sm (Rg_w (Rg_c (x := 0) (a := (0)) (b := (0)) (by decide)) (by decide)) (lv_sub hl [1, 0] rfl)
      replace hv := fnN hv q19
      have r20 : Rg x1_37 (0) (31) := Rg_ult r1_37 (Rg_nle q19) ry18 (by decide)
      have r21 : Rg y18 (1) (32) := Rg_llt ry18 (Rg_nle q19) r1_37 (by decide)
      refine lv_aload_n hx hb dX6_measure_45 rfl (lv_at hl 0 rfl) ?_
      obtain ⟨b22, mb22, vb22, kb22⟩ := rf_6_5 oR m0 k0
      replace hv := fnR hv vb22
      refine gf_6_5 vb22 hx hb hts hown hH m0 k0 rfl kf_X6_27 dX6_measure_46 ?_
      refine lv_iload_n hx hb dX6_measure_49 rfl (lv_at hl 1 rfl) ?_
      refine ld_37 hx hb hH mb22 kb22 (Rg_in r20 (by decide)) dX6_measure_50 ?_
      refine lv_topi (fun y23 ey23 => ?_)
      have ry23 : Rg y23 (0) (1) := by rw [ey23]; exact rd_37 oI mb22 kb22 (Rg_in r20 (by decide))
      replace hv := fnS hv ey23
      refine lv_if_eq (tgt := 91) hx hb dX6_measure_51 (by decide) (fun q24 => ?_) (fun q24 => ?_)
      · replace hv := fnP hv q24
        have r25 : Rg y23 (0) (0) := Rg_both ry23 (Rg_eqv q24 (Rg_c (x := 0) (a := (0)) (b := (0)) (by decide))) (by decide)
        exact L_91 I_37 _ _ _ hH hv oI sm r20 (lv_sub hl [0, 1] rfl)
      replace hv := fnN hv q24
      have r26 : Rg y23 (1) (1) := Rg_nelo ry23 (Rg_ne q24) (Rg_c (x := 0) (a := (0)) (b := (0)) (by decide)) (by decide)
      refine lv_aload_n hx hb dX6_measure_54 rfl (lv_at hl 0 rfl) ?_
      obtain ⟨b27, mb27, vb27, kb27⟩ := rf_6_0 oR m0 k0
      replace hv := fnR hv vb27
      refine gf_6_0 vb27 hx hb hts hown hH m0 k0 rfl kf_X6_11 dX6_measure_55 ?_
      refine lv_iload_n hx hb dX6_measure_58 rfl (lv_at hl 1 rfl) ?_
      refine ld_32 hx hb hH mb27 kb27 (Rg_in r20 (by decide)) dX6_measure_59 ?_
      refine lv_topi (fun y28 ey28 => ?_)
      have ry28 : Rg y28 (0) (6) := by rw [ey28]; exact rd_32 oI mb27 kb27 (Rg_in r20 (by decide))
      replace hv := fnS hv ey28
      refine lv_bipush (v := 7) hx hb dX6_measure_60 (by decide) ?_
      refine lv_imul hx hb dX6_measure_62 ?_
      refine lv_topi (fun y29 ey29 => ?_)
      replace hv := fnS hv ey29
      obtain ⟨ty29, ry29⟩ := Rg_mulx (a' := (0)) (b' := (42)) (rfl : y28.toInt = _) (by decide : Int32.toInt 7 = 7) ry28 (Rg_c (x := 7) (a := (7)) (b := (7)) (by decide)) (by decide)
      rw [← ey29] at ty29 ry29
      refine lv_aload_n hx hb dX6_measure_63 rfl (lv_at hl 0 rfl) ?_
      obtain ⟨b30, mb30, vb30, kb30⟩ := rf_6_1 oR m0 k0
      replace hv := fnR hv vb30
      refine gf_6_1 vb30 hx hb hts hown hH m0 k0 rfl kf_X6_15 dX6_measure_64 ?_
      refine lv_iload_n hx hb dX6_measure_67 rfl (lv_at hl 1 rfl) ?_
      refine ld_33 hx hb hH mb30 kb30 (Rg_in r20 (by decide)) dX6_measure_68 ?_
      refine lv_topi (fun y31 ey31 => ?_)
      have ry31 : Rg y31 (0) (6) := by rw [ey31]; exact rd_33 oI mb30 kb30 (Rg_in r20 (by decide))
      replace hv := fnS hv ey31
      refine lv_iadd hx hb dX6_measure_69 ?_
      refine lv_topi (fun y32 ey32 => ?_)
      replace hv := fnS hv ey32
      obtain ⟨ty32, ry32⟩ := Rg_addx (a' := (0)) (b' := (48)) (rfl : y29.toInt = _) (rfl : y31.toInt = _) ry29 ry31 (by decide)
      rw [← ey32] at ty32 ry32
      refine lv_istore_n (lv' := [(2, .int y32), (0, .ref a0), (1, .int x1_37)]) hx hb dX6_measure_70 rfl hl (by decide) rfl (fun ls hl => ?_)
      refine lv_aload_n hx hb dX6_measure_71 rfl (lv_at hl 1 rfl) ?_
      refine gf_6_8 vb1 hx hb hts hown hH m0 k0 rfl kf_X6_38 dX6_measure_72 ?_
      refine lv_iload_n hx hb dX6_measure_75 rfl (lv_at hl 0 rfl) ?_
      refine lv_aload_n hx hb dX6_measure_76 rfl (lv_at hl 1 rfl) ?_
      refine gf_6_8 vb1 hx hb hts hown hH m0 k0 rfl kf_X6_38 dX6_measure_77 ?_
      refine lv_iload_n hx hb dX6_measure_80 rfl (lv_at hl 0 rfl) ?_
      refine ld_38 hx hb hH mb1 kb1 (Rg_in ry32 (by decide)) dX6_measure_81 ?_
      refine lv_topi (fun y33 ey33 => ?_)
      replace hv := fnS hv ey33
      refine lv_aload_n hx hb dX6_measure_82 rfl (lv_at hl 1 rfl) ?_
      refine lv_iload_n hx hb dX6_measure_83 rfl (lv_at hl 2 rfl) ?_
      refine ca_X6_94 hx hb hml hown hts hH (c_X6_weightOf oI oR m0 k0 r20) hl.1 m0 k0 rfl (by decide) (Nat.le_of_ble_eq_true rfl) ⟨Nat.zero_le _, Nat.zero_le _⟩ dX6_measure_84 (fun y34 I34 J34 R34 H locs hp hH => ?_)
      obtain ⟨eI34, eJ34, eR34, ry34, hf34⟩ := hp
      obtain rfl : I_37 = I34 := eI34.symm
      obtain rfl : J = J34 := eJ34.symm
      obtain rfl : R = R34 := eR34.symm
      replace hv := fnS hv hf34.symm
      refine ca_X6_98 hx hb hml hown hts hH (c_J9_min_7cf53 ) hl.1 (by decide) (Nat.le_of_ble_eq_true rfl) ⟨Nat.zero_le _, Nat.zero_le _⟩ dX6_measure_87 (fun y35 I35 J35 R35 H locs hp hH => ?_)
      obtain ⟨eI35, eJ35, eR35, hf35⟩ := hp
      obtain rfl : I_37 = I35 := eI35.symm
      obtain rfl : J = J35 := eJ35.symm
      obtain rfl : R = R35 := eR35.symm
      replace hv := fnS hv hf35.symm
      refine st_38 hx hb hH mb1 kb1 (Rg_in ry32 (by decide)) dX6_measure_90 (fun I36 H locs eI36 hH => ?_)
      replace hv := fnS hv eI36
      have oI : OkI L C I36 := by rw [eI36]; exact wr_38 oI kb1 (Rg_any y35)
      have sm : Sm C ms_X6_measure (I, J, R) (I36, J, R) := by rw [eI36]; exact sm.stI kb1 (mC_arr (by decide) rfl)
      exact L_91 I36 _ _ _ hH hv oI sm r20 (lv_sub hl [1, 2] rfl)
  have L_11 : ∀ (n_11 : Nat) (I_11 : hI) (H : Heap) (locs : List Loc) (ls : Array Slot) (x1_11 : Int32), (7 - x1_11.toInt).toNat < n_11 → Hp D cy L C b0 s s.heap I_11 J R H locs → TT0 = F_X6_measure_11 a0 b1 n_11 I_11 J R x1_11 → OkI L C I_11 → Sm C ms_X6_measure (I, J, R) (I_11, J, R) → Rg x1_11 (0) (7) → lv_has ls 3 [(0, .ref a0), (1, .int x1_11)] → W p l e (rmD 2) s m args below meth c H locs 0 0 Q (F0 m 11 ls []) := by
    intro n_11
    induction n_11 with
    | zero => intro I_11 H locs ls x1_11 h; exact absurd h (Nat.not_lt_zero _)
    | succ n_11 ih_11 =>
      intro I_11 H locs ls x1_11 hn_11 hH hv oI sm r1_11 hl
      replace hv := hv.trans F_X6_measure_11_s
      unfold B_X6_measure_11 at hv
      refine lv_iload_n hx hb dX6_measure_11 rfl (lv_at hl 1 rfl) ?_
      refine lv_bipush (v := 7) hx hb dX6_measure_12 (by decide) ?_
      refine lv_icmp_ge (tgt := 35) hx hb dX6_measure_14 (by decide) (fun q37 => ?_) (fun q37 => ?_)
      · replace hv := fnP hv q37
        have r38 : Rg x1_11 (7) (7) := Rg_lle r1_11 (Rg_le q37) (Rg_c (x := 7) (a := (7)) (b := (7)) (by decide)) (by decide)
        refine lv_iconst (v := 0) hx hb dX6_measure_35 (by decide) ?_
        refine lv_istore_n (lv' := [(1, .int 0), (0, .ref a0)]) hx hb dX6_measure_36 rfl hl (by decide) rfl (fun ls hl => ?_)
        exact L_37 ((32 - (0 : Int32).toInt).toNat + 1) I_11 _ _ _ 0 (Nat.lt_succ_self _) hH hv oI sm (Rg_w (Rg_c (x := 0) (a := (0)) (b := (0)) (by decide)) (by decide)) (lv_sub hl [1, 0] rfl)
      replace hv := fnN hv q37
      have r39 : Rg x1_11 (0) (6) := Rg_ult r1_11 (Rg_nle q37) (Rg_c (x := 7) (a := (7)) (b := (7)) (by decide)) (by decide)
      refine lv_aload_n hx hb dX6_measure_17 rfl (lv_at hl 0 rfl) ?_
      refine gf_6_8 vb1 hx hb hts hown hH m0 k0 rfl kf_X6_38 dX6_measure_18 ?_
      refine lv_iload_n hx hb dX6_measure_21 rfl (lv_at hl 1 rfl) ?_
      refine lv_bipush (v := 7) hx hb dX6_measure_22 (by decide) ?_
      refine lv_imul hx hb dX6_measure_24 ?_
      refine lv_topi (fun y40 ey40 => ?_)
      replace hv := fnS hv ey40
      obtain ⟨ty40, ry40⟩ := Rg_mulx (a' := (0)) (b' := (42)) (rfl : x1_11.toInt = _) (by decide : Int32.toInt 7 = 7) r39 (Rg_c (x := 7) (a := (7)) (b := (7)) (by decide)) (by decide)
      rw [← ey40] at ty40 ry40
      refine lv_iload_n hx hb dX6_measure_25 rfl (lv_at hl 1 rfl) ?_
      refine lv_iadd hx hb dX6_measure_26 ?_
      refine lv_topi (fun y41 ey41 => ?_)
      replace hv := fnS hv ey41
      obtain ⟨ty41, ry41⟩ := Rg_addx (a' := (0)) (b' := (48)) (rfl : y40.toInt = _) (rfl : x1_11.toInt = _) ry40 r39 (by decide)
      rw [← ey41] at ty41 ry41
      refine lv_iconst (v := 0) hx hb dX6_measure_27 (by decide) ?_
      refine st_38 hx hb hH mb1 kb1 (Rg_in ry41 (by decide)) dX6_measure_28 (fun I42 H locs eI42 hH => ?_)
      replace hv := fnS hv eI42
      have oI : OkI L C I42 := by rw [eI42]; exact wr_38 oI kb1 (Rg_w (Rg_c (x := 0) (a := (0)) (b := (0)) (by decide)) (by decide))
      have sm : Sm C ms_X6_measure (I, J, R) (I42, J, R) := by rw [eI42]; exact sm.stI kb1 (mC_arr (by decide) rfl)
      obtain ⟨y43, ey43⟩ : ∃ y : Int32, y = x1_11 + 1 := ⟨_, rfl⟩
      replace hv := fnS hv ey43
      obtain ⟨ty43, ry43⟩ := Rg_addx (a' := (1)) (b' := (7)) (rfl : x1_11.toInt = _) (by decide : Int32.toInt 1 = 1) r39 (Rg_c (x := 1) (a := (1)) (b := (1)) (by decide)) (by decide)
      rw [← ey43] at ty43 ry43
      refine lv_iinc (v := y43) (lv' := [(1, .int y43), (0, .ref a0)]) hx hb dX6_measure_29 hl (k := 1) rfl (by rw [ey43]; rfl) (by decide) rfl (fun ls hl => ?_)
      refine lv_goto (tgt := 11) hx hb dX6_measure_32 (by decide) ?_
      exact ih_11 I42 _ _ _ y43 (lp_up hn_11 ty43 (Rg_ltc r39 (by decide))) hH hv oI sm (Rg_w ry43 (by decide)) (lv_sub hl [1, 0] rfl)
  exact L_11 ((7 - (0 : Int32).toInt).toNat + 1) I2 _ _ _ 0 (Nat.lt_succ_self _) hH hv oI sm (Rg_w (Rg_c (x := 0) (a := (0)) (b := (0)) (by decide)) (by decide)) (lv_sub hl [1, 0] rfl)
noncomputable def F_X6_tell (a0 : Nat) (x1 : Int32) (x2 : Int32) (x3 : Int32) (x4 : Int32) (x5 : Int32) (I : hI) (J : hJ) (R : hR) : Int32 × hU :=
  nm (I a0 6) fun z1 => nmW (F_X6_keep a0 x1 x2 x3 x4 x5 I J R) fun I2 _ _ => nm (I2 a0 6) fun y3 => nmW (F_X6_measure a0 I2 J R) fun I4 _ _ => nm (y3 - (1 : Int32)) fun y8 => (y8, (I4, J, R))
def ms_X6_tell : List Nat := [390, 391, 2048, 2112, 2176, 2240, 2304, 2368, 2432, 2496]
set_option maxHeartbeats 4000000 in
set_option maxRecDepth 100000 in
theorem c_X6_tell {l : Launch} {D : va_G} {cy : Nat → ClassId} {L : List Nat} {C : Nat → Nat} {b0 : Nat} {I : hI} {J : hJ} {R : hR} {a0 : Nat} {x1 : Int32} {x2 : Int32} {x3 : Int32} {x4 : Int32} {x5 : Int32} (oI : OkI L C I) (oR : OkR L C R) (m0 : a0 ∈ L) (k0 : C a0 = 6) (h1 : Rg x1 (0) (6)) (h2 : Rg x2 (0) (6)) (h3 : Rg x3 (0) (50)) (h4 : Rg x4 (-1000) (1000)) (h5 : Rg x5 (-1000) (1000)) (hm6 : Rg (I a0 6) (0) (31)) (hU : Uq L C) : CI l yX6_tell cX6_tell 6 .int 3 D cy L C b0 [.ref a0, .int x1, .int x2, .int x3, .int x4, .int x5] (I, J, R) (fun r v => Ps L C ms_X6_tell (I, J, R) v ∧ v.2.1 = J ∧ v.2.2 = R ∧ Rg r (0) (31) ∧ (r = I a0 6 ∧ v.1 a0 6 = I a0 6 + 1 ∧ ∀ b ∈ L, C b = 37 → v.1 b = up (I b) (I a0 6).toNatClampNeg 1) ∧ F_X6_tell a0 x1 x2 x3 x4 x5 I J R = (r, v)) := by
  refine CI.mkI (plainFor_of_name (by decide)) (Nat.le_of_ble_eq_true rfl) ?_
  intro p e s m args below meth c ls Q hF ret hH hl
  obtain ⟨hx, hb, -, hml, hown, hts, -⟩ := hF
  have hl : lv_has ls 6 [(0, .ref a0), (1, .int x1), (2, .int x2), (3, .int x3), (4, .int x4), (5, .int x5)] := hl
  have hH : Hp D cy L C b0 s s.heap I J R s.heap [] := hH
  have sm : Sm C ms_X6_tell (I, J, R) (I, J, R) := Sm.rf
  obtain ⟨TT0, hT⟩ : ∃ TT0, TT0 = F_X6_tell a0 x1 x2 x3 x4 x5 I J R := ⟨_, rfl⟩
  have hv := hT
  unfold F_X6_tell at hv
  obtain ⟨z1, ez1⟩ : ∃ y : Int32, y = I a0 6 := ⟨_, rfl⟩
  have rz1 : Rg z1 (0) (31) := by rw [ez1]; exact hm6
  replace hv := fnS hv ez1
  refine lv_aload_n hx hb dX6_tell_0 rfl (lv_at hl 0 rfl) ?_
  refine lv_iload_n hx hb dX6_tell_1 rfl (lv_at hl 1 rfl) ?_
  refine lv_iload_n hx hb dX6_tell_2 rfl (lv_at hl 2 rfl) ?_
  refine lv_iload_n hx hb dX6_tell_3 rfl (lv_at hl 3 rfl) ?_
  refine lv_iload hx hb dX6_tell_4 (lv_at hl 4 rfl) ?_
  refine lv_iload hx hb dX6_tell_6 (lv_at hl 5 rfl) ?_
  refine ca_X6_63 hx hb hml hown hts hH (c_X6_keep oI oR m0 k0 h1 h2 h3 h4 h5 (by rw [← ez1]; exact Rg_w rz1 (by decide)) (by assumption)) hl.1 m0 k0 rfl (by decide) (Nat.le_of_ble_eq_true rfl) ⟨Nat.zero_le _, Nat.zero_le _⟩ dX6_tell_8 (fun I2 J2 R2 H locs hp hH => ?_)
  obtain ⟨⟨oI, -, sc2⟩, eJ2, eR2, pm2_6, hp2, hf2⟩ := hp
  obtain rfl : J = J2 := eJ2.symm
  obtain rfl : R = R2 := eR2.symm
  replace hv := fnW hv hf2
  have sm : Sm C ms_X6_tell (I, J, R) (I2, J, R) := sm.tr sc2 rfl
  obtain ⟨y3, ey3⟩ : ∃ y : Int32, y = I2 a0 6 := ⟨_, rfl⟩
  have ry3 : Rg y3 (1) (32) := by rw [ey3]; exact pm2_6
  replace hv := fnS hv ey3
  refine lv_aload_n hx hb dX6_tell_11 rfl (lv_at hl 0 rfl) ?_
  refine ca_X6_67 hx hb hml hown hts hH (c_X6_measure oI oR m0 k0) hl.1 m0 k0 rfl (by decide) (Nat.le_of_ble_eq_true rfl) ⟨Nat.zero_le _, Nat.zero_le _⟩ dX6_tell_12 (fun I4 J4 R4 H locs hp hH => ?_)
  obtain ⟨⟨oI, -, sc4⟩, eJ4, eR4, hf4⟩ := hp
  obtain rfl : J = J4 := eJ4.symm
  obtain rfl : R = R4 := eR4.symm
  replace hv := fnW hv hf4
  have sm : Sm C ms_X6_tell (I, J, R) (I4, J, R) := sm.tr sc4 rfl
  refine lv_aload_n hx hb dX6_tell_15 rfl (lv_at hl 0 rfl) ?_
  have f6 : I4 a0 (6) = I2 a0 (6) := ((sc4 a0 6 (by rw [k0]; exact (by decide))).1)
  have f5 : y3 = I4 a0 (6) := ey3.trans f6.symm
  refine gf_6_6 hx hb hts hown hH m0 k0 rfl kf_X6_31 dX6_tell_16 ?_
  refine lv_topi (fun y7 ey7 => ?_)
  obtain rfl : y3 = y7 := f5.trans ey7.symm
  refine lv_iconst (v := 1) hx hb dX6_tell_19 (by decide) ?_
  refine lv_isub hx hb dX6_tell_20 ?_
  refine lv_topi (fun y8 ey8 => ?_)
  replace hv := fnS hv ey8
  obtain ⟨ty8, ry8⟩ := Rg_subx (a' := (0)) (b' := (31)) (rfl : y3.toInt = _) (by decide : Int32.toInt 1 = 1) ry3 (Rg_c (x := 1) (a := (1)) (b := (1)) (by decide)) (by decide)
  rw [← ey8] at ty8 ry8
  exact ret (y8) _ _ _ _ _ _ _ dX6_tell_21 hH ⟨⟨oI, oR, sm⟩, rfl, rfl, ry8, (by have h2 : I4 a0 6 = I2 a0 6 := (sc4 a0 6 (by rw [k0]; decide)).1; have h3 : y3.toInt = (I a0 6).toInt + 1 := (by rw [f5, h2]; exact hp2.1.1); refine ⟨Int32.toInt_inj.mp (by have a1 := ty8; omega), h2.trans hp2.1.2, fun b hb hk => ?_⟩; exact (funext fun k => (sc4 b k (by rw [hk]; exact nm_arr (by decide) rfl)).1).trans (hp2.2.2.2.2.2.2 b hb hk)), (hT.symm.trans hv)⟩
noncomputable def F_X6_canForget (a0 : Nat) (x1 : Int32) (I : hI) (J : hJ) (R : hR) : Int32 :=
  nm (I a0 6) fun y1 => nm (y1 - (1 : Int32)) fun y2 => nm (F_X10_isWithin x1 (12 : Int32) y2) fun y3 => (if y3 = (1 : Int32) then nm ((R a0 5).getD 0) fun b12 => nm (I b12 (Int32.toNatClampNeg x1)) fun y13 => (if y13 = (0 : Int32) then (0 : Int32) else (1 : Int32)) else (0 : Int32))
set_option maxHeartbeats 4000000 in
set_option maxRecDepth 100000 in
theorem c_X6_canForget {l : Launch} {D : va_G} {cy : Nat → ClassId} {L : List Nat} {C : Nat → Nat} {b0 : Nat} {I : hI} {J : hJ} {R : hR} {a0 : Nat} {x1 : Int32} (oI : OkI L C I) (oR : OkR L C R) (m0 : a0 ∈ L) (k0 : C a0 = 6) (hU : Uq L C) : CI l yX6_canForget cX6_canForget 2 .boolean 1 D cy L C b0 [.ref a0, .int x1] (I, J, R) (fun r v => v.1 = I ∧ v.2.1 = J ∧ v.2.2 = R ∧ Rg r (0) (1) ∧ (∀ tj ∈ L, C tj = 37 → (r = 1 ∧ 12 ≤ x1.toInt ∧ x1.toInt ≤ 31 ∧ dropOk (I a0 6) (I tj) x1) ∨ (r = 0 ∧ ¬ dropOk (I a0 6) (I tj) x1)) ∧ F_X6_canForget a0 x1 I J R = r) := by
  refine CI.mkZ (plainFor_of_name (by decide)) (Nat.le_of_ble_eq_true rfl) ?_
  intro p e s m args below meth c ls Q hF ret hH hl
  obtain ⟨hx, hb, -, hml, hown, hts, -⟩ := hF
  have hl : lv_has ls 2 [(0, .ref a0), (1, .int x1)] := hl
  have hH : Hp D cy L C b0 s s.heap I J R s.heap [] := hH
  obtain ⟨TT0, hT⟩ : ∃ TT0, TT0 = F_X6_canForget a0 x1 I J R := ⟨_, rfl⟩
  have hv := hT
  unfold F_X6_canForget at hv
  refine lv_iload_n hx hb dX6_canForget_0 rfl (lv_at hl 1 rfl) ?_
  refine lv_bipush (v := 12) hx hb dX6_canForget_1 (by decide) ?_
  refine lv_aload_n hx hb dX6_canForget_3 rfl (lv_at hl 0 rfl) ?_
  refine gf_6_6 hx hb hts hown hH m0 k0 rfl kf_X6_31 dX6_canForget_4 ?_
  refine lv_topi (fun y1 ey1 => ?_)
  have ry1 : Rg y1 (0) (32) := by rw [ey1]; exact rf_6_6 oI m0 k0
  replace hv := fnS hv ey1
  refine lv_iconst (v := 1) hx hb dX6_canForget_7 (by decide) ?_
  refine lv_isub hx hb dX6_canForget_8 ?_
  refine lv_topi (fun y2 ey2 => ?_)
  replace hv := fnS hv ey2
  obtain ⟨ty2, ry2⟩ := Rg_subx (a' := (-1)) (b' := (31)) (rfl : y1.toInt = _) (by decide : Int32.toInt 1 = 1) ry1 (Rg_c (x := 1) (a := (1)) (b := (1)) (by decide)) (by decide)
  rw [← ey2] at ty2 ry2
  refine ca_X6_70 hx hb hml hown hts hH (c_X10_isWithin ) hl.1 (by decide) (Nat.le_of_ble_eq_true rfl) ⟨Nat.zero_le _, Nat.zero_le _⟩ dX6_canForget_9 (fun y3 I3 J3 R3 H locs hp hH => ?_)
  obtain ⟨eI3, eJ3, eR3, ry3, hp3, hf3⟩ := hp
  obtain rfl : I = I3 := eI3.symm
  obtain rfl : J = J3 := eJ3.symm
  obtain rfl : R = R3 := eR3.symm
  replace hv := fnS hv hf3.symm
  rcases hp3 with ⟨rfl, hq3⟩ | ⟨rfl, hq3⟩
  rotate_left
  · replace hv := fnN hv (by decide)
    have l10 := hq3
    simp only [Int32.toInt_toInt64, show Int64.toInt (12) = 12 by decide, show Int32.toInt (12) = 12 by decide] at l10
    refine lv_if_eq (tgt := 28) hx hb dX6_canForget_12 (by decide) (fun q19 => ?_) (fun q19 => ?_)
    rotate_left
    · exact absurd rfl q19
    refine lv_iconst (v := 0) hx hb dX6_canForget_28 (by decide) ?_
    exact ret (0) _ _ _ _ _ _ _ dX6_canForget_29 hH (Rg_01 (Rg_w (Rg_c (x := 0) (a := (0)) (b := (0)) (by decide)) (by decide))) ⟨rfl, rfl, rfl, (Rg_w (Rg_c (x := 0) (a := (0)) (b := (0)) (by decide)) (by decide)), (by intro tj mtj ktj; have di0 : Int32.toInt (12) = 12 := (by decide); have di1 : Int32.toInt (1) = 1 := (by decide); have a4 := ty2; rw [ey1] at a4; refine Or.inr ⟨rfl, fun h => ?_⟩; unfold dropOk at h; omega), (hT.symm.trans hv)⟩
  replace hv := fnP hv rfl
  have l10 := hq3
  simp only [Int32.toInt_toInt64, show Int64.toInt (12) = 12 by decide, show Int32.toInt (12) = 12 by decide] at l10
  have l4 := hq3.1
  have r5 : Rg x1 (12) (2147483647) := Rg_lle (Rg_any x1) l4 (Rg_c (x := 12) (a := (12)) (b := (12)) (by decide)) (by decide)
  have l6 := hq3.2
  have r7 : Rg x1 (12) (31) := Rg_ule r5 l6 ry2 (by decide)
  have r8 : Rg y2 (12) (31) := Rg_lle ry2 l6 r5 (by decide)
  have r9 : Rg y1 (13) (32) := by have a1 := r8.1; have a2 := r8.2; have a3 := ry1.1; have a4 := ry1.2; exact ⟨by omega, by omega⟩
  refine lv_if_eq (tgt := 28) hx hb dX6_canForget_12 (by decide) (fun q11 => ?_) (fun q11 => ?_)
  · exact absurd q11 (by decide)
  refine lv_aload_n hx hb dX6_canForget_15 rfl (lv_at hl 0 rfl) ?_
  obtain ⟨b12, mb12, vb12, kb12⟩ := rf_6_5 oR m0 k0
  replace hv := fnR hv vb12
  refine gf_6_5 vb12 hx hb hts hown hH m0 k0 rfl kf_X6_27 dX6_canForget_16 ?_
  refine lv_iload_n hx hb dX6_canForget_19 rfl (lv_at hl 1 rfl) ?_
  refine ld_37 hx hb hH mb12 kb12 (Rg_in r7 (by decide)) dX6_canForget_20 ?_
  refine lv_topi (fun y13 ey13 => ?_)
  have ry13 : Rg y13 (0) (1) := by rw [ey13]; exact rd_37 oI mb12 kb12 (Rg_in r7 (by decide))
  replace hv := fnS hv ey13
  refine lv_if_eq (tgt := 28) hx hb dX6_canForget_21 (by decide) (fun q14 => ?_) (fun q14 => ?_)
  · replace hv := fnP hv q14
    have l15 := congrArg Int32.toInt q14
    have r16 : Rg y13 (0) (0) := Rg_both ry13 (Rg_eqv q14 (Rg_c (x := 0) (a := (0)) (b := (0)) (by decide))) (by decide)
    refine lv_iconst (v := 0) hx hb dX6_canForget_28 (by decide) ?_
    exact ret (0) _ _ _ _ _ _ _ dX6_canForget_29 hH (Rg_01 (Rg_w (Rg_c (x := 0) (a := (0)) (b := (0)) (by decide)) (by decide))) ⟨rfl, rfl, rfl, (Rg_w (Rg_c (x := 0) (a := (0)) (b := (0)) (by decide)) (by decide)), (by intro tj mtj ktj; obtain ⟨ga0, gb0⟩ := r7; have di0 : Int32.toInt (12) = 12 := (by decide); have di1 : Int32.toInt (1) = 1 := (by decide); have a4 := ty2; rw [ey1] at a4; refine Or.inr ⟨rfl, fun h => ?_⟩; have a5 := h.2.2; rw [hU tj mtj b12 mb12 (ktj.trans kb12.symm) (by rw [ktj]; rfl), ← ey13] at a5; have a6 := r16; obtain ⟨a7, a8⟩ := a6; omega), (hT.symm.trans hv)⟩
  replace hv := fnN hv q14
  have l17 := Rg_ne q14
  have r18 : Rg y13 (1) (1) := Rg_nelo ry13 (Rg_ne q14) (Rg_c (x := 0) (a := (0)) (b := (0)) (by decide)) (by decide)
  refine lv_iconst (v := 1) hx hb dX6_canForget_24 (by decide) ?_
  refine lv_goto (tgt := 29) hx hb dX6_canForget_25 (by decide) ?_
  exact ret (1) _ _ _ _ _ _ _ dX6_canForget_29 hH (Rg_01 (Rg_w (Rg_c (x := 1) (a := (1)) (b := (1)) (by decide)) (by decide))) ⟨rfl, rfl, rfl, (Rg_w (Rg_c (x := 1) (a := (1)) (b := (1)) (by decide)) (by decide)), (by intro tj mtj ktj; obtain ⟨ga0, gb0⟩ := r7; have di0 : Int32.toInt (12) = 12 := (by decide); have di1 : Int32.toInt (1) = 1 := (by decide); have a4 := ty2; rw [ey1] at a4; refine Or.inl ⟨rfl, by omega, by omega, by omega, by omega, ?_⟩; rw [hU tj mtj b12 mb12 (ktj.trans kb12.symm) (by rw [ktj]; rfl), ← ey13]; have a5 := r18.1; omega), (hT.symm.trans hv)⟩
noncomputable def F_X6_forget (a0 : Nat) (x1 : Int32) (I : hI) (J : hJ) (R : hR) : hU :=
  nm ((R a0 5).getD 0) fun b1 => nm (u2 I b1 (Int32.toNatClampNeg x1) (0 : Int32)) fun I2 => nm (I2 a0 7) fun y3 => nm (y3 - (1 : Int32)) fun y4 => nm (u2 I2 a0 7 y4) fun I5 => nmW (F_X6_measure a0 I5 J R) fun I7 _ _ => (I7, J, R)
def ms_X6_forget : List Nat := [391, 2368, 2432, 2496]
set_option maxHeartbeats 4000000 in
set_option maxRecDepth 100000 in
theorem c_X6_forget {l : Launch} {D : va_G} {cy : Nat → ClassId} {L : List Nat} {C : Nat → Nat} {b0 : Nat} {I : hI} {J : hJ} {R : hR} {a0 : Nat} {x1 : Int32} (oI : OkI L C I) (oR : OkR L C R) (m0 : a0 ∈ L) (k0 : C a0 = 6) (h1 : Rg x1 (12) (31)) (hU : Uq L C) : CV l yX6_forget cX6_forget 2 3 D cy L C b0 [.ref a0, .int x1] (I, J, R) (fun v => Ps L C ms_X6_forget (I, J, R) v ∧ v.2.1 = J ∧ v.2.2 = R ∧ (∀ tj ∈ L, C tj = 37 → v.1 tj = up (I tj) x1.toNatClampNeg 0) ∧ F_X6_forget a0 x1 I J R = v) := by
  refine CV.mk (plainFor_of_name (by decide)) (Nat.le_of_ble_eq_true rfl) ?_
  intro p e s m args below meth c ls Q hF ret hH hl
  obtain ⟨hx, hb, -, hml, hown, hts, -⟩ := hF
  have hl : lv_has ls 2 [(0, .ref a0), (1, .int x1)] := hl
  have hH : Hp D cy L C b0 s s.heap I J R s.heap [] := hH
  have sm : Sm C ms_X6_forget (I, J, R) (I, J, R) := Sm.rf
  obtain ⟨TT0, hT⟩ : ∃ TT0, TT0 = F_X6_forget a0 x1 I J R := ⟨_, rfl⟩
  have hv := hT
  unfold F_X6_forget at hv
  refine lv_aload_n hx hb dX6_forget_0 rfl (lv_at hl 0 rfl) ?_
  obtain ⟨b1, mb1, vb1, kb1⟩ := rf_6_5 oR m0 k0
  replace hv := fnR hv vb1
  refine gf_6_5 vb1 hx hb hts hown hH m0 k0 rfl kf_X6_27 dX6_forget_1 ?_
  refine lv_iload_n hx hb dX6_forget_4 rfl (lv_at hl 1 rfl) ?_
  refine lv_iconst (v := 0) hx hb dX6_forget_5 (by decide) ?_
  refine st_37 hx hb hH mb1 kb1 (Rg_in h1 (by decide)) (Rg_01 (Rg_w (Rg_c (x := 0) (a := (0)) (b := (0)) (by decide)) (by decide))) dX6_forget_6 (fun I2 H locs eI2 hH => ?_)
  replace hv := fnS hv eI2
  have oI : OkI L C I2 := by rw [eI2]; exact wr_37 oI kb1 (Rg_w (Rg_c (x := 0) (a := (0)) (b := (0)) (by decide)) (by decide))
  have sm : Sm C ms_X6_forget (I, J, R) (I2, J, R) := by rw [eI2]; exact sm.stI kb1 (mC_arr (by decide) rfl)
  refine lv_aload_n hx hb dX6_forget_7 rfl (lv_at hl 0 rfl) ?_
  refine lv_dup hx hb dX6_forget_8 rfl ?_
  refine gf_6_7 hx hb hts hown hH m0 k0 rfl kf_X6_35 dX6_forget_9 ?_
  refine lv_topi (fun y3 ey3 => ?_)
  replace hv := fnS hv ey3
  refine lv_iconst (v := 1) hx hb dX6_forget_12 (by decide) ?_
  refine lv_isub hx hb dX6_forget_13 ?_
  refine lv_topi (fun y4 ey4 => ?_)
  replace hv := fnS hv ey4
  refine pf_6_7 hx hb hts hown hH m0 k0 rfl kf_X6_35 dX6_forget_14 (fun I5 H locs eI5 hH => ?_)
  replace hv := fnS hv eI5
  have oI : OkI L C I5 := by rw [eI5]; exact wf_6_7 oI k0 (Rg_any y4)
  have sm : Sm C ms_X6_forget (I, J, R) (I5, J, R) := by rw [eI5]; exact sm.stI k0 (mC_obj (by decide) rfl)
  have f6 : y4 = I5 a0 7 := by rw [eI5, u2_at]
  refine lv_aload_n hx hb dX6_forget_17 rfl (lv_at hl 0 rfl) ?_
  refine ca_X6_67 hx hb hml hown hts hH (c_X6_measure oI oR m0 k0) hl.1 m0 k0 rfl (by decide) (Nat.le_of_ble_eq_true rfl) ⟨Nat.zero_le _, Nat.zero_le _⟩ dX6_forget_18 (fun I7 J7 R7 H locs hp hH => ?_)
  obtain ⟨⟨oI, -, sc7⟩, eJ7, eR7, hf7⟩ := hp
  obtain rfl : J = J7 := eJ7.symm
  obtain rfl : R = R7 := eR7.symm
  replace hv := fnW hv hf7
  have sm : Sm C ms_X6_forget (I, J, R) (I7, J, R) := sm.tr sc7 rfl
  exact ret _ _ _ _ _ _ _ dX6_forget_21 hH ⟨⟨oI, oR, sm⟩, rfl, rfl, (by intro tj mtj ktj; rw [hU tj mtj b1 mb1 (ktj.trans kb1.symm) (by rw [ktj]; rfl)]; show I7 b1 = _; have s8 : I2 b1 = up (I b1) _ _ := (by rw [eI2]; exact u2_up); have s9 : I5 b1 = I2 b1 := (by rw [eI5, u2_ne (ne_role kb1 k0 (by decide))]); have s10 : I7 b1 = I5 b1 := (funext fun k => (sc7 b1 k (by rw [kb1]; exact nm_arr (by decide) rfl)).1); rw [s10, s9, s8]), (hT.symm.trans hv)⟩
noncomputable def F_X6_costBetween_26 (a0 : Nat) (x1 : Int32) (x2 : Int32) (y4 : Int32) (b1 : Nat) (y2 : Int32) (y3 : Int32) (I : hI) (J : hJ) (R : hR) (xs0_26 : Int32) : Int32 :=
  xs0_26
noncomputable def F_X6_costBetween (a0 : Nat) (x1 : Int32) (x2 : Int32) (I : hI) (J : hJ) (R : hR) : Int32 :=
  nm ((R a0 8).getD 0) fun b1 => nm (x1 * (7 : Int32)) fun y2 => nm (y2 + x2) fun y3 => nm (I b1 (Int32.toNatClampNeg y3)) fun y4 => (if y4 < (268435456 : Int32) then nm (y4 / (8 : Int32)) fun y7 => F_X6_costBetween_26 a0 x1 x2 y4 b1 y2 y3 I J R y7 else F_X6_costBetween_26 a0 x1 x2 y4 b1 y2 y3 I J R (-1 : Int32))
set_option maxHeartbeats 4000000 in
set_option maxRecDepth 100000 in
theorem c_X6_costBetween {l : Launch} {D : va_G} {cy : Nat → ClassId} {L : List Nat} {C : Nat → Nat} {b0 : Nat} {I : hI} {J : hJ} {R : hR} {a0 : Nat} {x1 : Int32} {x2 : Int32} (oI : OkI L C I) (oR : OkR L C R) (m0 : a0 ∈ L) (k0 : C a0 = 6) (h1 : Rg x1 (0) (6)) (h2 : Rg x2 (0) (6)) : CI l yX6_costBetween cX6_costBetween 4 .int 0 D cy L C b0 [.ref a0, .int x1, .int x2] (I, J, R) (fun r v => v.1 = I ∧ v.2.1 = J ∧ v.2.2 = R ∧ F_X6_costBetween a0 x1 x2 I J R = r) := by
  refine CI.mkI (plainFor_of_name (by decide)) (Nat.le_of_ble_eq_true rfl) ?_
  intro p e s m args below meth c ls Q hF ret hH hl
  obtain ⟨hx, hb, -, hml, hown, hts, -⟩ := hF
  have hl : lv_has ls 4 [(0, .ref a0), (1, .int x1), (2, .int x2)] := hl
  have hH : Hp D cy L C b0 s s.heap I J R s.heap [] := hH
  obtain ⟨TT0, hT⟩ : ∃ TT0, TT0 = F_X6_costBetween a0 x1 x2 I J R := ⟨_, rfl⟩
  have hv := hT
  unfold F_X6_costBetween at hv
  refine lv_aload_n hx hb dX6_costBetween_0 rfl (lv_at hl 0 rfl) ?_
  obtain ⟨b1, mb1, vb1, kb1⟩ := rf_6_8 oR m0 k0
  replace hv := fnR hv vb1
  refine gf_6_8 vb1 hx hb hts hown hH m0 k0 rfl kf_X6_38 dX6_costBetween_1 ?_
  refine lv_iload_n hx hb dX6_costBetween_4 rfl (lv_at hl 1 rfl) ?_
  refine lv_bipush (v := 7) hx hb dX6_costBetween_5 (by decide) ?_
  refine lv_imul hx hb dX6_costBetween_7 ?_
  refine lv_topi (fun y2 ey2 => ?_)
  replace hv := fnS hv ey2
  obtain ⟨ty2, ry2⟩ := Rg_mulx (a' := (0)) (b' := (42)) (rfl : x1.toInt = _) (by decide : Int32.toInt 7 = 7) h1 (Rg_c (x := 7) (a := (7)) (b := (7)) (by decide)) (by decide)
  rw [← ey2] at ty2 ry2
  refine lv_iload_n hx hb dX6_costBetween_8 rfl (lv_at hl 2 rfl) ?_
  refine lv_iadd hx hb dX6_costBetween_9 ?_
  refine lv_topi (fun y3 ey3 => ?_)
  replace hv := fnS hv ey3
  obtain ⟨ty3, ry3⟩ := Rg_addx (a' := (0)) (b' := (48)) (rfl : y2.toInt = _) (rfl : x2.toInt = _) ry2 h2 (by decide)
  rw [← ey3] at ty3 ry3
  refine ld_38 hx hb hH mb1 kb1 (Rg_in ry3 (by decide)) dX6_costBetween_10 ?_
  refine lv_topi (fun y4 ey4 => ?_)
  replace hv := fnS hv ey4
  refine lv_istore_n (lv' := [(3, .int y4), (0, .ref a0), (1, .int x1), (2, .int x2)]) hx hb dX6_costBetween_11 rfl hl (by decide) rfl (fun ls hl => ?_)
  refine lv_iload_n hx hb dX6_costBetween_12 rfl (lv_at hl 0 rfl) ?_
  refine lv_ldc (v := 268435456) hx hb hown (hts _ kk_X6_74) dX6_costBetween_13 ?_
  have L_26 : ∀ (H : Heap) (locs : List Loc) (ls : Array Slot) (xs0_26 : Int32), Hp D cy L C b0 s s.heap I J R H locs → TT0 = F_X6_costBetween_26 a0 x1 x2 y4 b1 y2 y3 I J R xs0_26 → lv_has ls 4 [] → W p l e (rmD 0) s m args below meth c H locs 0 0 Q (F0 m 26 ls [.int xs0_26]) := by
    intro H locs ls xs0_26 hH hv hl
    unfold F_X6_costBetween_26 at hv
    exact ret (xs0_26) _ _ _ _ _ _ _ dX6_costBetween_26 hH ⟨rfl, rfl, rfl, (hT.symm.trans hv)⟩
  refine lv_icmp_lt (tgt := 22) hx hb dX6_costBetween_15 (by decide) (fun q5 => ?_) (fun q5 => ?_)
  rotate_left
  · replace hv := fnN hv q5
    have r8 : Rg y4 (268435456) (2147483647) := Rg_lle (Rg_any y4) (Rg_nlt q5) (Rg_c (x := 268435456) (a := (268435456)) (b := (268435456)) (by decide)) (by decide)
    refine lv_iconst (v := (-1)) hx hb dX6_costBetween_18 (by decide) ?_
    refine lv_goto (tgt := 26) hx hb dX6_costBetween_19 (by decide) ?_
    exact L_26 _ _ _ (-1) hH hv (lv_sub hl [] rfl)
  replace hv := fnP hv q5
  have r6 : Rg y4 (-2147483648) (268435455) := Rg_ult (Rg_any y4) (Rg_lt q5) (Rg_c (x := 268435456) (a := (268435456)) (b := (268435456)) (by decide)) (by decide)
  refine lv_iload_n hx hb dX6_costBetween_22 rfl (lv_at hl 0 rfl) ?_
  refine lv_bipush (v := 8) hx hb dX6_costBetween_23 (by decide) ?_
  refine lv_idiv hx hb dX6_costBetween_25 (by decide) ?_
  refine lv_topi (fun y7 ey7 => ?_)
  replace hv := fnS hv ey7
  exact L_26 _ _ _ y7 hH hv (lv_sub hl [] rfl)
noncomputable def F_X6_stepsBetween (a0 : Nat) (x1 : Int32) (x2 : Int32) (I : hI) (J : hJ) (R : hR) : Int32 :=
  nm ((R a0 8).getD 0) fun b1 => nm (x1 * (7 : Int32)) fun y2 => nm (y2 + x2) fun y3 => nm (I b1 (Int32.toNatClampNeg y3)) fun y4 => nm (y4 - y4 / (8 : Int32) * (8 : Int32)) fun y5 => y5
set_option maxHeartbeats 4000000 in
set_option maxRecDepth 100000 in
theorem c_X6_stepsBetween {l : Launch} {D : va_G} {cy : Nat → ClassId} {L : List Nat} {C : Nat → Nat} {b0 : Nat} {I : hI} {J : hJ} {R : hR} {a0 : Nat} {x1 : Int32} {x2 : Int32} (oI : OkI L C I) (oR : OkR L C R) (m0 : a0 ∈ L) (k0 : C a0 = 6) (h1 : Rg x1 (0) (6)) (h2 : Rg x2 (0) (6)) : CI l yX6_stepsBetween cX6_stepsBetween 3 .int 0 D cy L C b0 [.ref a0, .int x1, .int x2] (I, J, R) (fun r v => v.1 = I ∧ v.2.1 = J ∧ v.2.2 = R ∧ F_X6_stepsBetween a0 x1 x2 I J R = r) := by
  refine CI.mkI (plainFor_of_name (by decide)) (Nat.le_of_ble_eq_true rfl) ?_
  intro p e s m args below meth c ls Q hF ret hH hl
  obtain ⟨hx, hb, -, hml, hown, hts, -⟩ := hF
  have hl : lv_has ls 3 [(0, .ref a0), (1, .int x1), (2, .int x2)] := hl
  have hH : Hp D cy L C b0 s s.heap I J R s.heap [] := hH
  obtain ⟨TT0, hT⟩ : ∃ TT0, TT0 = F_X6_stepsBetween a0 x1 x2 I J R := ⟨_, rfl⟩
  have hv := hT
  unfold F_X6_stepsBetween at hv
  refine lv_aload_n hx hb dX6_stepsBetween_0 rfl (lv_at hl 0 rfl) ?_
  obtain ⟨b1, mb1, vb1, kb1⟩ := rf_6_8 oR m0 k0
  replace hv := fnR hv vb1
  refine gf_6_8 vb1 hx hb hts hown hH m0 k0 rfl kf_X6_38 dX6_stepsBetween_1 ?_
  refine lv_iload_n hx hb dX6_stepsBetween_4 rfl (lv_at hl 1 rfl) ?_
  refine lv_bipush (v := 7) hx hb dX6_stepsBetween_5 (by decide) ?_
  refine lv_imul hx hb dX6_stepsBetween_7 ?_
  refine lv_topi (fun y2 ey2 => ?_)
  replace hv := fnS hv ey2
  obtain ⟨ty2, ry2⟩ := Rg_mulx (a' := (0)) (b' := (42)) (rfl : x1.toInt = _) (by decide : Int32.toInt 7 = 7) h1 (Rg_c (x := 7) (a := (7)) (b := (7)) (by decide)) (by decide)
  rw [← ey2] at ty2 ry2
  refine lv_iload_n hx hb dX6_stepsBetween_8 rfl (lv_at hl 2 rfl) ?_
  refine lv_iadd hx hb dX6_stepsBetween_9 ?_
  refine lv_topi (fun y3 ey3 => ?_)
  replace hv := fnS hv ey3
  obtain ⟨ty3, ry3⟩ := Rg_addx (a' := (0)) (b' := (48)) (rfl : y2.toInt = _) (rfl : x2.toInt = _) ry2 h2 (by decide)
  rw [← ey3] at ty3 ry3
  refine ld_38 hx hb hH mb1 kb1 (Rg_in ry3 (by decide)) dX6_stepsBetween_10 ?_
  refine lv_topi (fun y4 ey4 => ?_)
  replace hv := fnS hv ey4
  refine lv_bipush (v := 8) hx hb dX6_stepsBetween_11 (by decide) ?_
  refine lv_irem hx hb dX6_stepsBetween_13 (by decide) ?_
  refine lv_topi (fun y5 ey5 => ?_)
  replace hv := fnS hv ey5
  exact ret (y5) _ _ _ _ _ _ _ dX6_stepsBetween_14 hH ⟨rfl, rfl, rfl, (hT.symm.trans hv)⟩
noncomputable def F_X6_stepAt_63 (a0 : Nat) (x1 : Int32) (x2 : Int32) (x3 : Int32) (I : hI) (J : hJ) (R : hR) : Int32 :=
  (-1 : Int32)
noncomputable def F_X6_stepAt_45 (a0 : Nat) (x1 : Int32) (x2 : Int32) (x3 : Int32) (x4_6 : Int32) (x5_6 : Int32) (k_6 : hI → hJ → hR → Int32 → Int32 → (Int32)) (I : hI) (J : hJ) (R : hR) (x6_45 : Int32) : Int32 :=
  x6_45
noncomputable def B_X6_stepAt_6 (a0 : Nat) (x1 : Int32) (x2 : Int32) (x3 : Int32) (k_6 : hI → hJ → hR → Int32 → Int32 → (Int32)) (I : hI) (J : hJ) (R : hR) (x4_6 : Int32) (x5_6 : Int32) : Int32 :=
  (if (7 : Int32) ≤ x5_6 then F_X6_stepAt_63 a0 x1 x2 x3 I J R else (if x4_6 = x2 then F_X6_stepAt_63 a0 x1 x2 x3 I J R else nm ((R a0 9).getD 0) fun b5 => nm (x4_6 * (7 : Int32)) fun y6 => nm (y6 + x2) fun y7 => nm (I b5 (Int32.toNatClampNeg y7)) fun y8 => (if y8 = (-1 : Int32) then F_X6_stepAt_45 a0 x1 x2 x3 x4_6 x5_6 k_6 I J R y8 else (if x5_6 = x3 then F_X6_stepAt_45 a0 x1 x2 x3 x4_6 x5_6 k_6 I J R y8 else nm ((R a0 1).getD 0) fun b13 => nm (I b13 (Int32.toNatClampNeg y8)) fun y14 => nm (x5_6 + (1 : Int32)) fun y15 => k_6 I J R y14 y15))))
noncomputable def F_X6_stepAt_6 (a0 : Nat) (x1 : Int32) (x2 : Int32) (x3 : Int32) : Nat → hI → hJ → hR → Int32 → Int32 → (Int32) := fun n => Nat.rec (motive := fun _ => hI → hJ → hR → Int32 → Int32 → (Int32)) (fun _ _ _ _ _ => default) (fun _ k => B_X6_stepAt_6 a0 x1 x2 x3 k) n
theorem F_X6_stepAt_6_s {a0 : Nat} {x1 : Int32} {x2 : Int32} {x3 : Int32} {n : Nat} {I : hI} {J : hJ} {R : hR} {x4_6 : Int32} {x5_6 : Int32} : F_X6_stepAt_6 a0 x1 x2 x3 (n + 1)  I J R x4_6 x5_6 = B_X6_stepAt_6 a0 x1 x2 x3 (F_X6_stepAt_6 a0 x1 x2 x3 n)  I J R x4_6 x5_6 := rfl
noncomputable def F_X6_stepAt (a0 : Nat) (x1 : Int32) (x2 : Int32) (x3 : Int32) (I : hI) (J : hJ) (R : hR) : Int32 :=
  F_X6_stepAt_6 a0 x1 x2 x3 ((7 - (0 : Int32).toInt).toNat + 1) I J R x1 (0 : Int32)
set_option maxHeartbeats 4000000 in
set_option maxRecDepth 100000 in
theorem c_X6_stepAt {l : Launch} {D : va_G} {cy : Nat → ClassId} {L : List Nat} {C : Nat → Nat} {b0 : Nat} {I : hI} {J : hJ} {R : hR} {a0 : Nat} {x1 : Int32} {x2 : Int32} {x3 : Int32} (oI : OkI L C I) (oR : OkR L C R) (m0 : a0 ∈ L) (k0 : C a0 = 6) (h1 : Rg x1 (0) (6)) (h2 : Rg x2 (0) (6)) : CI l yX6_stepAt cX6_stepAt 7 .int 0 D cy L C b0 [.ref a0, .int x1, .int x2, .int x3] (I, J, R) (fun r v => v.1 = I ∧ v.2.1 = J ∧ v.2.2 = R ∧ Rg r (-1) (31) ∧ F_X6_stepAt a0 x1 x2 x3 I J R = r) := by
  refine CI.mkI (plainFor_of_name (by decide)) (Nat.le_of_ble_eq_true rfl) ?_
  intro p e s m args below meth c ls Q hF ret hH hl
  obtain ⟨hx, hb, -, hml, hown, hts, -⟩ := hF
  have hl : lv_has ls 7 [(0, .ref a0), (1, .int x1), (2, .int x2), (3, .int x3)] := hl
  have hH : Hp D cy L C b0 s s.heap I J R s.heap [] := hH
  obtain ⟨TT0, hT⟩ : ∃ TT0, TT0 = F_X6_stepAt a0 x1 x2 x3 I J R := ⟨_, rfl⟩
  have hv := hT
  unfold F_X6_stepAt at hv
  refine lv_iload_n hx hb dX6_stepAt_0 rfl (lv_at hl 1 rfl) ?_
  refine lv_istore (lv' := [(4, .int x1), (0, .ref a0), (1, .int x1), (2, .int x2), (3, .int x3)]) hx hb dX6_stepAt_1 hl (by decide) rfl (fun ls hl => ?_)
  refine lv_iconst (v := 0) hx hb dX6_stepAt_3 (by decide) ?_
  refine lv_istore (lv' := [(5, .int 0), (4, .int x1), (0, .ref a0), (1, .int x1), (2, .int x2), (3, .int x3)]) hx hb dX6_stepAt_4 hl (by decide) rfl (fun ls hl => ?_)
  have L_63 : ∀ (H : Heap) (locs : List Loc) (ls : Array Slot), Hp D cy L C b0 s s.heap I J R H locs → TT0 = F_X6_stepAt_63 a0 x1 x2 x3 I J R → lv_has ls 7 [] → W p l e (rmD 0) s m args below meth c H locs 0 0 Q (F0 m 63 ls []) := by
    intro H locs ls hH hv hl
    unfold F_X6_stepAt_63 at hv
    refine lv_iconst (v := (-1)) hx hb dX6_stepAt_63 (by decide) ?_
    exact ret ((-1)) _ _ _ _ _ _ _ dX6_stepAt_64 hH ⟨rfl, rfl, rfl, (Rg_w (Rg_c (x := (-1)) (a := (-1)) (b := (-1)) (by decide)) (by decide)), (hT.symm.trans hv)⟩
  have L_6 : ∀ (n_6 : Nat) (H : Heap) (locs : List Loc) (ls : Array Slot) (x4_6 : Int32) (x5_6 : Int32), (7 - x5_6.toInt).toNat < n_6 → Hp D cy L C b0 s s.heap I J R H locs → TT0 = F_X6_stepAt_6 a0 x1 x2 x3 n_6 I J R x4_6 x5_6 → Rg x2 (0) (6) → Rg x4_6 (0) (6) → Rg x5_6 (0) (7) → lv_has ls 7 [(0, .ref a0), (2, .int x2), (3, .int x3), (4, .int x4_6), (5, .int x5_6)] → W p l e (rmD 0) s m args below meth c H locs 0 0 Q (F0 m 6 ls []) := by
    intro n_6
    induction n_6 with
    | zero => intro H locs ls x4_6 x5_6 h; exact absurd h (Nat.not_lt_zero _)
    | succ n_6 ih_6 =>
      intro H locs ls x4_6 x5_6 hn_6 hH hv r2_6 r4_6 r5_6 hl
      replace hv := hv.trans F_X6_stepAt_6_s
      unfold B_X6_stepAt_6 at hv
      have L_45 : ∀ (H : Heap) (locs : List Loc) (ls : Array Slot) (x6_45 : Int32), Hp D cy L C b0 s s.heap I J R H locs → TT0 = F_X6_stepAt_45 a0 x1 x2 x3 x4_6 x5_6 (F_X6_stepAt_6 a0 x1 x2 x3 n_6) I J R x6_45 → Rg x6_45 (-1) (31) → lv_has ls 7 [(6, .int x6_45)] → W p l e (rmD 0) s m args below meth c H locs 0 0 Q (F0 m 45 ls []) := by
        intro H locs ls x6_45 hH hv r6_45 hl
        unfold F_X6_stepAt_45 at hv
        refine lv_iload hx hb dX6_stepAt_45 (lv_at hl 0 rfl) ?_
        exact ret (x6_45) _ _ _ _ _ _ _ dX6_stepAt_47 hH ⟨rfl, rfl, rfl, r6_45, (hT.symm.trans hv)⟩
      refine lv_iload hx hb dX6_stepAt_6 (lv_at hl 4 rfl) ?_
      refine lv_bipush (v := 7) hx hb dX6_stepAt_8 (by decide) ?_
      refine lv_icmp_ge (tgt := 63) hx hb dX6_stepAt_10 (by decide) (fun q1 => ?_) (fun q1 => ?_)
      · replace hv := fnP hv q1
        have r2 : Rg x5_6 (7) (7) := Rg_lle r5_6 (Rg_le q1) (Rg_c (x := 7) (a := (7)) (b := (7)) (by decide)) (by decide)
        exact L_63 _ _ _ hH hv (lv_sub hl [] rfl)
      replace hv := fnN hv q1
      have r3 : Rg x5_6 (0) (6) := Rg_ult r5_6 (Rg_nle q1) (Rg_c (x := 7) (a := (7)) (b := (7)) (by decide)) (by decide)
      refine lv_iload hx hb dX6_stepAt_13 (lv_at hl 3 rfl) ?_
      refine lv_iload_n hx hb dX6_stepAt_15 rfl (lv_at hl 1 rfl) ?_
      refine lv_icmp_eq (tgt := 63) hx hb dX6_stepAt_16 (by decide) (fun q4 => ?_) (fun q4 => ?_)
      · replace hv := fnP hv q4
        exact L_63 _ _ _ hH hv (lv_sub hl [] rfl)
      replace hv := fnN hv q4
      refine lv_aload_n hx hb dX6_stepAt_19 rfl (lv_at hl 0 rfl) ?_
      obtain ⟨b5, mb5, vb5, kb5⟩ := rf_6_9 oR m0 k0
      replace hv := fnR hv vb5
      refine gf_6_9 vb5 hx hb hts hown hH m0 k0 rfl kf_X6_41 dX6_stepAt_20 ?_
      refine lv_iload hx hb dX6_stepAt_23 (lv_at hl 3 rfl) ?_
      refine lv_bipush (v := 7) hx hb dX6_stepAt_25 (by decide) ?_
      refine lv_imul hx hb dX6_stepAt_27 ?_
      refine lv_topi (fun y6 ey6 => ?_)
      replace hv := fnS hv ey6
      obtain ⟨ty6, ry6⟩ := Rg_mulx (a' := (0)) (b' := (42)) (rfl : x4_6.toInt = _) (by decide : Int32.toInt 7 = 7) r4_6 (Rg_c (x := 7) (a := (7)) (b := (7)) (by decide)) (by decide)
      rw [← ey6] at ty6 ry6
      refine lv_iload_n hx hb dX6_stepAt_28 rfl (lv_at hl 1 rfl) ?_
      refine lv_iadd hx hb dX6_stepAt_29 ?_
      refine lv_topi (fun y7 ey7 => ?_)
      replace hv := fnS hv ey7
      obtain ⟨ty7, ry7⟩ := Rg_addx (a' := (0)) (b' := (48)) (rfl : y6.toInt = _) (rfl : x2.toInt = _) ry6 r2_6 (by decide)
      rw [← ey7] at ty7 ry7
      refine ld_39 hx hb hH mb5 kb5 (Rg_in ry7 (by decide)) dX6_stepAt_30 ?_
      refine lv_topi (fun y8 ey8 => ?_)
      have ry8 : Rg y8 (-1) (31) := by rw [ey8]; exact rd_39 oI mb5 kb5 (Rg_in ry7 (by decide))
      replace hv := fnS hv ey8
      refine lv_istore (lv' := [(6, .int y8), (0, .ref a0), (2, .int x2), (3, .int x3), (4, .int x4_6), (5, .int x5_6)]) hx hb dX6_stepAt_31 hl (by decide) rfl (fun ls hl => ?_)
      refine lv_iload hx hb dX6_stepAt_33 (lv_at hl 0 rfl) ?_
      refine lv_iconst (v := (-1)) hx hb dX6_stepAt_35 (by decide) ?_
      refine lv_icmp_eq (tgt := 45) hx hb dX6_stepAt_36 (by decide) (fun q9 => ?_) (fun q9 => ?_)
      · replace hv := fnP hv q9
        have r10 : Rg y8 (-1) (-1) := Rg_both ry8 (Rg_eqv q9 (Rg_c (x := (-1)) (a := (-1)) (b := (-1)) (by decide))) (by decide)
        exact L_45 _ _ _ y8 hH hv (Rg_w r10 (by decide)) (lv_sub hl [0] rfl)
      replace hv := fnN hv q9
      have r11 : Rg y8 (0) (31) := Rg_nelo ry8 (Rg_ne q9) (Rg_c (x := (-1)) (a := (-1)) (b := (-1)) (by decide)) (by decide)
      refine lv_iload hx hb dX6_stepAt_39 (lv_at hl 5 rfl) ?_
      refine lv_iload_n hx hb dX6_stepAt_41 rfl (lv_at hl 3 rfl) ?_
      refine lv_icmp_ne (tgt := 48) hx hb dX6_stepAt_42 (by decide) (fun q12 => ?_) (fun q12 => ?_)
      rotate_left
      · replace hv := fnP hv q12
        have r16 : Rg x3 (0) (6) := Rg_both (Rg_any x3) (Rg_eqv q12.symm r3) (by decide)
        exact L_45 _ _ _ y8 hH hv (Rg_w r11 (by decide)) (lv_sub hl [0] rfl)
      replace hv := fnN hv q12
      refine lv_aload_n hx hb dX6_stepAt_48 rfl (lv_at hl 1 rfl) ?_
      obtain ⟨b13, mb13, vb13, kb13⟩ := rf_6_1 oR m0 k0
      replace hv := fnR hv vb13
      refine gf_6_1 vb13 hx hb hts hown hH m0 k0 rfl kf_X6_15 dX6_stepAt_49 ?_
      refine lv_iload hx hb dX6_stepAt_52 (lv_at hl 0 rfl) ?_
      refine ld_33 hx hb hH mb13 kb13 (Rg_in r11 (by decide)) dX6_stepAt_54 ?_
      refine lv_topi (fun y14 ey14 => ?_)
      have ry14 : Rg y14 (0) (6) := by rw [ey14]; exact rd_33 oI mb13 kb13 (Rg_in r11 (by decide))
      replace hv := fnS hv ey14
      refine lv_istore (lv' := [(4, .int y14), (6, .int y8), (0, .ref a0), (2, .int x2), (3, .int x3), (5, .int x5_6)]) hx hb dX6_stepAt_55 hl (by decide) rfl (fun ls hl => ?_)
      obtain ⟨y15, ey15⟩ : ∃ y : Int32, y = x5_6 + 1 := ⟨_, rfl⟩
      replace hv := fnS hv ey15
      obtain ⟨ty15, ry15⟩ := Rg_addx (a' := (1)) (b' := (7)) (rfl : x5_6.toInt = _) (by decide : Int32.toInt 1 = 1) r3 (Rg_c (x := 1) (a := (1)) (b := (1)) (by decide)) (by decide)
      rw [← ey15] at ty15 ry15
      refine lv_iinc (v := y15) (lv' := [(5, .int y15), (4, .int y14), (6, .int y8), (0, .ref a0), (2, .int x2), (3, .int x3)]) hx hb dX6_stepAt_57 hl (k := 5) rfl (by rw [ey15]; rfl) (by decide) rfl (fun ls hl => ?_)
      refine lv_goto (tgt := 6) hx hb dX6_stepAt_60 (by decide) ?_
      exact ih_6 _ _ _ y14 y15 (lp_up hn_6 ty15 (Rg_ltc r3 (by decide))) hH hv r2_6 ry14 (Rg_w ry15 (by decide)) (lv_sub hl [3, 4, 5, 1, 0] rfl)
  exact L_6 ((7 - (0 : Int32).toInt).toNat + 1) _ _ _ x1 0 (Nat.lt_succ_self _) hH hv h2 h1 (Rg_w (Rg_c (x := 0) (a := (0)) (b := (0)) (by decide)) (by decide)) (lv_sub hl [2, 4, 5, 1, 0] rfl)
noncomputable def F_X6_follow_87 (a0 : Nat) (x1 : Int32) (x2 : Int64) (I : hI) (J_87 : hJ) (R : hR) : Int32 × hU :=
  nm ((R a0 1).getD 0) fun b1 => nm (I b1 (Int32.toNatClampNeg x1)) fun y2 => nm (J_87 a0 10) fun w3 => nm (F_X10_isOf y2 w3) fun y4 => (y4, (I, J_87, R))
noncomputable def F_X6_follow_18 (a0 : Nat) (x1 : Int32) (x2 : Int64) (I : hI) (J_18 : hJ) (R : hR) (xs0_18 : Int64) : Int32 × hU :=
  nm (u2 J_18 a0 10 xs0_18) fun J5 => F_X6_follow_87 a0 x1 x2 I J5 R
noncomputable def F_X6_follow (a0 : Nat) (x1 : Int32) (x2 : Int64) (I : hI) (J : hJ) (R : hR) : Int32 × hU :=
  (if x1 = (7 : Int32) then nm (lg_cmp x2 (0 : Int64)) fun y25 => (if y25 = (0 : Int32) then F_X6_follow_18 a0 x1 x2 I J R (0 : Int64) else F_X6_follow_18 a0 x1 x2 I J R (1 : Int64)) else (if x1 = (9 : Int32) then nm (x2 / (10 : Int64)) fun w22 => nm (u2 J a0 10 w22) fun J23 => F_X6_follow_87 a0 x1 x2 I J23 R else nm ((R a0 3).getD 0) fun b8 => nm (I b8 (Int32.toNatClampNeg x1)) fun y9 => nm ((R a0 4).getD 0) fun b10 => nm (I b10 (Int32.toNatClampNeg x1)) fun y11 => nm (F_X10_staysIn64 x2 y9 y11) fun y12 => (if y12 = (0 : Int32) then ((0 : Int32), (I, J, R)) else nm (x2 * (y9.toInt64)) fun w17 => nm (w17 + (y11.toInt64)) fun w19 => nm (u2 J a0 10 w19) fun J20 => F_X6_follow_87 a0 x1 x2 I J20 R)))
def ms_X6_follow : List Nat := [394]
set_option maxHeartbeats 4000000 in
set_option maxRecDepth 100000 in
theorem c_X6_follow {l : Launch} {D : va_G} {cy : Nat → ClassId} {L : List Nat} {C : Nat → Nat} {b0 : Nat} {I : hI} {J : hJ} {R : hR} {a0 : Nat} {x1 : Int32} {x2 : Int64} (oI : OkI L C I) (oR : OkR L C R) (m0 : a0 ∈ L) (k0 : C a0 = 6) (h1 : Rg x1 (0) (31)) : CI l yX6_follow cX6_follow 4 .boolean 1 D cy L C b0 [.ref a0, .int x1, .long x2] (I, J, R) (fun r v => Ps L C ms_X6_follow (I, J, R) v ∧ v.1 = I ∧ v.2.2 = R ∧ Rg r (0) (1) ∧ F_X6_follow a0 x1 x2 I J R = (r, v)) := by
  refine CI.mkZ (plainFor_of_name (by decide)) (Nat.le_of_ble_eq_true rfl) ?_
  intro p e s m args below meth c ls Q hF ret hH hl
  obtain ⟨hx, hb, -, hml, hown, hts, -⟩ := hF
  have hl : lv_has ls 4 [(0, .ref a0), (1, .int x1), (2, .long x2)] := hl
  have hH : Hp D cy L C b0 s s.heap I J R s.heap [] := hH
  have sm : Sm C ms_X6_follow (I, J, R) (I, J, R) := Sm.rf
  obtain ⟨TT0, hT⟩ : ∃ TT0, TT0 = F_X6_follow a0 x1 x2 I J R := ⟨_, rfl⟩
  have hv := hT
  unfold F_X6_follow at hv
  refine lv_iload_n hx hb dX6_follow_0 rfl (lv_at hl 1 rfl) ?_
  refine lv_bipush (v := 7) hx hb dX6_follow_1 (by decide) ?_
  have L_87 : ∀ (J_87 : hJ) (H : Heap) (locs : List Loc) (ls : Array Slot), Hp D cy L C b0 s s.heap I J_87 R H locs → TT0 = F_X6_follow_87 a0 x1 x2 I J_87 R → Sm C ms_X6_follow (I, J, R) (I, J_87, R) → Rg x1 (0) (31) → lv_has ls 4 [(0, .ref a0), (1, .int x1)] → W p l e (rmD 1) s m args below meth c H locs 0 0 Q (F0 m 87 ls []) := by
    intro J_87 H locs ls hH hv sm r1_87 hl
    unfold F_X6_follow_87 at hv
    refine lv_aload_n hx hb dX6_follow_87 rfl (lv_at hl 0 rfl) ?_
    obtain ⟨b1, mb1, vb1, kb1⟩ := rf_6_1 oR m0 k0
    replace hv := fnR hv vb1
    refine gf_6_1 vb1 hx hb hts hown hH m0 k0 rfl kf_X6_15 dX6_follow_88 ?_
    refine lv_iload_n hx hb dX6_follow_91 rfl (lv_at hl 1 rfl) ?_
    refine ld_33 hx hb hH mb1 kb1 (Rg_in r1_87 (by decide)) dX6_follow_92 ?_
    refine lv_topi (fun y2 ey2 => ?_)
    have ry2 : Rg y2 (0) (6) := by rw [ey2]; exact rd_33 oI mb1 kb1 (Rg_in r1_87 (by decide))
    replace hv := fnS hv ey2
    refine lv_aload_n hx hb dX6_follow_93 rfl (lv_at hl 0 rfl) ?_
    refine gf_6_10 hx hb hts hown hH m0 k0 rfl kf_X6_44 dX6_follow_94 ?_
    refine lv_topl (fun w3 ew3 => ?_)
    replace hv := fnS hv ew3
    refine ca_X6_85 hx hb hml hown hts hH (c_X10_isOf ry2) hl.1 (by decide) (Nat.le_of_ble_eq_true rfl) ⟨Nat.zero_le _, Nat.zero_le _⟩ dX6_follow_97 (fun y4 I4 J4 R4 H locs hp hH => ?_)
    obtain ⟨eI4, eJ4, eR4, ry4, hp4, hf4⟩ := hp
    obtain rfl : I = I4 := eI4.symm
    obtain rfl : J_87 = J4 := eJ4.symm
    obtain rfl : R = R4 := eR4.symm
    replace hv := fnS hv hf4.symm
    exact ret (y4) _ _ _ _ _ _ _ dX6_follow_100 hH (Rg_01 (Rg_w ry4 (by decide))) ⟨⟨oI, oR, sm⟩, rfl, rfl, ry4, (hT.symm.trans hv)⟩
  have L_18 : ∀ (J_18 : hJ) (H : Heap) (locs : List Loc) (ls : Array Slot) (xs0_18 : Int64), Hp D cy L C b0 s s.heap I J_18 R H locs → TT0 = F_X6_follow_18 a0 x1 x2 I J_18 R xs0_18 → Sm C ms_X6_follow (I, J, R) (I, J_18, R) → Rg x1 (7) (7) → lv_has ls 4 [(0, .ref a0), (1, .int x1)] → W p l e (rmD 1) s m args below meth c H locs 0 0 Q (F0 m 18 ls [.long xs0_18, .ref a0]) := by
    intro J_18 H locs ls xs0_18 hH hv sm r1_18 hl
    unfold F_X6_follow_18 at hv
    refine pf_6_10 hx hb hts hown hH m0 k0 rfl kf_X6_44 dX6_follow_18 (fun J5 H locs eJ5 hH => ?_)
    replace hv := fnS hv eJ5
    have sm : Sm C ms_X6_follow (I, J, R) (I, J5, R) := by rw [eJ5]; exact sm.stJ k0 (mC_obj (by decide) rfl)
    refine lv_goto (tgt := 87) hx hb dX6_follow_21 (by decide) ?_
    exact L_87 J5 _ _ _ hH hv sm (Rg_w r1_18 (by decide)) (lv_sub hl [0, 1] rfl)
  refine lv_icmp_ne (tgt := 24) hx hb dX6_follow_3 (by decide) (fun q6 => ?_) (fun q6 => ?_)
  rotate_left
  · replace hv := fnP hv q6
    have r24 : Rg x1 (7) (7) := Rg_both h1 (Rg_eqv q6 (Rg_c (x := 7) (a := (7)) (b := (7)) (by decide))) (by decide)
    refine lv_aload_n hx hb dX6_follow_6 rfl (lv_at hl 0 rfl) ?_
    refine lv_lload_n hx hb dX6_follow_7 rfl (lv_at hl 2 rfl) ?_
    refine lv_lconst (v := 0) hx hb dX6_follow_8 (by decide) ?_
    refine W.lcmp hx hb dX6_follow_9 ?_
    refine lv_topi (fun y25 ey25 => ?_)
    replace hv := fnS hv ey25
    refine lv_if_ne (tgt := 17) hx hb dX6_follow_10 (by decide) (fun q26 => ?_) (fun q26 => ?_)
    · replace hv := fnN hv q26
      have l27 := lc_ne ey25 q26
      refine lv_lconst (v := 1) hx hb dX6_follow_17 (by decide) ?_
      exact L_18 J _ _ _ 1 hH hv sm r24 (lv_sub hl [0, 1] rfl)
    replace hv := fnP hv q26
    have l28 := lc_eq ey25 q26
    have r29 : Rg y25 (0) (0) := Rg_both (Rg_any y25) (Rg_eqv q26 (Rg_c (x := 0) (a := (0)) (b := (0)) (by decide))) (by decide)
    refine lv_lconst (v := 0) hx hb dX6_follow_13 (by decide) ?_
    refine lv_goto (tgt := 18) hx hb dX6_follow_14 (by decide) ?_
    exact L_18 J _ _ _ 0 hH hv sm r24 (lv_sub hl [0, 1] rfl)
  replace hv := fnN hv q6
  refine lv_iload_n hx hb dX6_follow_24 rfl (lv_at hl 1 rfl) ?_
  refine lv_bipush (v := 9) hx hb dX6_follow_25 (by decide) ?_
  refine lv_icmp_ne (tgt := 42) hx hb dX6_follow_27 (by decide) (fun q7 => ?_) (fun q7 => ?_)
  rotate_left
  · replace hv := fnP hv q7
    have r21 : Rg x1 (9) (9) := Rg_both h1 (Rg_eqv q7 (Rg_c (x := 9) (a := (9)) (b := (9)) (by decide))) (by decide)
    refine lv_aload_n hx hb dX6_follow_30 rfl (lv_at hl 0 rfl) ?_
    refine lv_lload_n hx hb dX6_follow_31 rfl (lv_at hl 2 rfl) ?_
    refine lv_ldc2 (v := 10) hx hb hown (hts _ kkl_X6_79) dX6_follow_32 ?_
    refine lv_ldiv hx hb dX6_follow_35 (by decide) ?_
    refine lv_topl (fun w22 ew22 => ?_)
    replace hv := fnS hv ew22
    refine pf_6_10 hx hb hts hown hH m0 k0 rfl kf_X6_44 dX6_follow_36 (fun J23 H locs eJ23 hH => ?_)
    replace hv := fnS hv eJ23
    have sm : Sm C ms_X6_follow (I, J, R) (I, J23, R) := by rw [eJ23]; exact sm.stJ k0 (mC_obj (by decide) rfl)
    refine lv_goto (tgt := 87) hx hb dX6_follow_39 (by decide) ?_
    exact L_87 J23 _ _ _ hH hv sm (Rg_w r21 (by decide)) (lv_sub hl [0, 1] rfl)
  replace hv := fnN hv q7
  refine lv_lload_n hx hb dX6_follow_42 rfl (lv_at hl 2 rfl) ?_
  refine lv_aload_n hx hb dX6_follow_43 rfl (lv_at hl 0 rfl) ?_
  obtain ⟨b8, mb8, vb8, kb8⟩ := rf_6_3 oR m0 k0
  replace hv := fnR hv vb8
  refine gf_6_3 vb8 hx hb hts hown hH m0 k0 rfl kf_X6_21 dX6_follow_44 ?_
  refine lv_iload_n hx hb dX6_follow_47 rfl (lv_at hl 1 rfl) ?_
  refine ld_35 hx hb hH mb8 kb8 (Rg_in h1 (by decide)) dX6_follow_48 ?_
  refine lv_topi (fun y9 ey9 => ?_)
  have ry9 : Rg y9 (-1000) (1000) := by rw [ey9]; exact rd_35 oI mb8 kb8 (Rg_in h1 (by decide))
  replace hv := fnS hv ey9
  refine lv_aload_n hx hb dX6_follow_49 rfl (lv_at hl 0 rfl) ?_
  obtain ⟨b10, mb10, vb10, kb10⟩ := rf_6_4 oR m0 k0
  replace hv := fnR hv vb10
  refine gf_6_4 vb10 hx hb hts hown hH m0 k0 rfl kf_X6_24 dX6_follow_50 ?_
  refine lv_iload_n hx hb dX6_follow_53 rfl (lv_at hl 1 rfl) ?_
  refine ld_36 hx hb hH mb10 kb10 (Rg_in h1 (by decide)) dX6_follow_54 ?_
  refine lv_topi (fun y11 ey11 => ?_)
  have ry11 : Rg y11 (-1000) (1000) := by rw [ey11]; exact rd_36 oI mb10 kb10 (Rg_in h1 (by decide))
  replace hv := fnS hv ey11
  refine ca_X6_81 hx hb hml hown hts hH (c_X10_staysIn64 ) hl.1 (by decide) (Nat.le_of_ble_eq_true rfl) ⟨Nat.zero_le _, Nat.zero_le _⟩ dX6_follow_55 (fun y12 I12 J12 R12 H locs hp hH => ?_)
  obtain ⟨eI12, eJ12, eR12, ry12, hf12⟩ := hp
  obtain rfl : I = I12 := eI12.symm
  obtain rfl : J = J12 := eJ12.symm
  obtain rfl : R = R12 := eR12.symm
  replace hv := fnS hv hf12.symm
  refine lv_if_eq (tgt := 85) hx hb dX6_follow_58 (by decide) (fun q13 => ?_) (fun q13 => ?_)
  · replace hv := fnP hv q13
    have r14 : Rg y12 (0) (0) := Rg_both ry12 (Rg_eqv q13 (Rg_c (x := 0) (a := (0)) (b := (0)) (by decide))) (by decide)
    refine lv_iconst (v := 0) hx hb dX6_follow_85 (by decide) ?_
    exact ret (0) _ _ _ _ _ _ _ dX6_follow_86 hH (Rg_01 (Rg_w (Rg_c (x := 0) (a := (0)) (b := (0)) (by decide)) (by decide))) ⟨⟨oI, oR, sm⟩, rfl, rfl, (Rg_w (Rg_c (x := 0) (a := (0)) (b := (0)) (by decide)) (by decide)), (hT.symm.trans hv)⟩
  replace hv := fnN hv q13
  have r15 : Rg y12 (1) (1) := Rg_nelo ry12 (Rg_ne q13) (Rg_c (x := 0) (a := (0)) (b := (0)) (by decide)) (by decide)
  refine lv_aload_n hx hb dX6_follow_61 rfl (lv_at hl 0 rfl) ?_
  refine lv_lload_n hx hb dX6_follow_62 rfl (lv_at hl 2 rfl) ?_
  refine lv_aload_n hx hb dX6_follow_63 rfl (lv_at hl 0 rfl) ?_
  refine gf_6_3 vb8 hx hb hts hown hH m0 k0 rfl kf_X6_21 dX6_follow_64 ?_
  refine lv_iload_n hx hb dX6_follow_67 rfl (lv_at hl 1 rfl) ?_
  refine ld_35 hx hb hH mb8 kb8 (Rg_in h1 (by decide)) dX6_follow_68 ?_
  refine lv_topi (fun y16 ey16 => ?_)
  obtain rfl : y9 = y16 := ey9.trans ey16.symm
  refine lv_i2l (v := y9.toInt64) hx hb dX6_follow_69 rfl ?_
  refine lv_lmul hx hb dX6_follow_70 ?_
  refine lv_topl (fun w17 ew17 => ?_)
  replace hv := fnS hv ew17
  refine lv_aload_n hx hb dX6_follow_71 rfl (lv_at hl 0 rfl) ?_
  refine gf_6_4 vb10 hx hb hts hown hH m0 k0 rfl kf_X6_24 dX6_follow_72 ?_
  refine lv_iload_n hx hb dX6_follow_75 rfl (lv_at hl 1 rfl) ?_
  refine ld_36 hx hb hH mb10 kb10 (Rg_in h1 (by decide)) dX6_follow_76 ?_
  refine lv_topi (fun y18 ey18 => ?_)
  obtain rfl : y11 = y18 := ey11.trans ey18.symm
  refine lv_i2l (v := y11.toInt64) hx hb dX6_follow_77 rfl ?_
  refine lv_ladd hx hb dX6_follow_78 ?_
  refine lv_topl (fun w19 ew19 => ?_)
  replace hv := fnS hv ew19
  refine pf_6_10 hx hb hts hown hH m0 k0 rfl kf_X6_44 dX6_follow_79 (fun J20 H locs eJ20 hH => ?_)
  replace hv := fnS hv eJ20
  have sm : Sm C ms_X6_follow (I, J, R) (I, J20, R) := by rw [eJ20]; exact sm.stJ k0 (mC_obj (by decide) rfl)
  refine lv_goto (tgt := 87) hx hb dX6_follow_82 (by decide) ?_
  exact L_87 J20 _ _ _ hH hv sm h1 (lv_sub hl [0, 1] rfl)
noncomputable def F_X6_carry_80 (a0 : Nat) (x1 : Int32) (x2 : Int32) (x3 : Int64) (I_80 : hI) (J_80 : hJ) (R : hR) : Int32 × hU :=
  ((1 : Int32), (I_80, J_80, R))
noncomputable def F_X6_carry_63 (a0 : Nat) (x1 : Int32) (x2 : Int32) (x3 : Int64) (x5_11 : Int32) (x6_11 : Int32) (k_11 : hI → hJ → hR → Int32 → Int32 → (Int32 × hU)) (I_63 : hI) (J_63 : hJ) (R : hR) : Int32 × hU :=
  ((0 : Int32), (I_63, J_63, R))
noncomputable def B_X6_carry_11 (a0 : Nat) (x1 : Int32) (x2 : Int32) (x3 : Int64) (k_11 : hI → hJ → hR → Int32 → Int32 → (Int32 × hU)) (I_11 : hI) (J_11 : hJ) (R : hR) (x5_11 : Int32) (x6_11 : Int32) : Int32 × hU :=
  (if (7 : Int32) ≤ x6_11 then F_X6_carry_80 a0 x1 x2 x3 I_11 J_11 R else (if x5_11 = x2 then F_X6_carry_80 a0 x1 x2 x3 I_11 J_11 R else nm ((R a0 9).getD 0) fun b6 => nm (x5_11 * (7 : Int32)) fun y7 => nm (y7 + x2) fun y8 => nm (I_11 b6 (Int32.toNatClampNeg y8)) fun y9 => nm (u2 I_11 a0 11 y9) fun I10 => (if y9 = (-1 : Int32) then F_X6_carry_63 a0 x1 x2 x3 x5_11 x6_11 k_11 I10 J_11 R else nm (J_11 a0 10) fun w15 => nmU (F_X6_follow a0 y9 w15 I10 J_11 R) fun y16 _ J16 _ => (if y16 = (0 : Int32) then F_X6_carry_63 a0 x1 x2 x3 x5_11 x6_11 k_11 I10 J16 R else nm ((R a0 1).getD 0) fun b19 => nm (I10 b19 (Int32.toNatClampNeg y9)) fun y20 => nm (x6_11 + (1 : Int32)) fun y21 => k_11 I10 J16 R y20 y21))))
noncomputable def F_X6_carry_11 (a0 : Nat) (x1 : Int32) (x2 : Int32) (x3 : Int64) : Nat → hI → hJ → hR → Int32 → Int32 → (Int32 × hU) := fun n => Nat.rec (motive := fun _ => hI → hJ → hR → Int32 → Int32 → (Int32 × hU)) (fun _ _ _ _ _ => default) (fun _ k => B_X6_carry_11 a0 x1 x2 x3 k) n
theorem F_X6_carry_11_s {a0 : Nat} {x1 : Int32} {x2 : Int32} {x3 : Int64} {n : Nat} {I_11 : hI} {J_11 : hJ} {R : hR} {x5_11 : Int32} {x6_11 : Int32} : F_X6_carry_11 a0 x1 x2 x3 (n + 1)  I_11 J_11 R x5_11 x6_11 = B_X6_carry_11 a0 x1 x2 x3 (F_X6_carry_11 a0 x1 x2 x3 n)  I_11 J_11 R x5_11 x6_11 := rfl
noncomputable def F_X6_carry (a0 : Nat) (x1 : Int32) (x2 : Int32) (x3 : Int64) (I : hI) (J : hJ) (R : hR) : Int32 × hU :=
  nm (u2 J a0 10 x3) fun J1 => F_X6_carry_11 a0 x1 x2 x3 ((7 - (0 : Int32).toInt).toNat + 1) I J1 R x1 (0 : Int32)
def ms_X6_carry : List Nat := [394, 395]
set_option maxHeartbeats 4000000 in
set_option maxRecDepth 100000 in
theorem c_X6_carry {l : Launch} {D : va_G} {cy : Nat → ClassId} {L : List Nat} {C : Nat → Nat} {b0 : Nat} {I : hI} {J : hJ} {R : hR} {a0 : Nat} {x1 : Int32} {x2 : Int32} {x3 : Int64} (oI : OkI L C I) (oR : OkR L C R) (m0 : a0 ∈ L) (k0 : C a0 = 6) (h1 : Rg x1 (0) (6)) (h2 : Rg x2 (0) (6)) : CI l yX6_carry cX6_carry 8 .boolean 2 D cy L C b0 [.ref a0, .int x1, .int x2, .long x3] (I, J, R) (fun r v => Ps L C ms_X6_carry (I, J, R) v ∧ v.2.2 = R ∧ Rg r (0) (1) ∧ F_X6_carry a0 x1 x2 x3 I J R = (r, v)) := by
  refine CI.mkZ (plainFor_of_name (by decide)) (Nat.le_of_ble_eq_true rfl) ?_
  intro p e s m args below meth c ls Q hF ret hH hl
  obtain ⟨hx, hb, -, hml, hown, hts, -⟩ := hF
  have hl : lv_has ls 8 [(0, .ref a0), (1, .int x1), (2, .int x2), (3, .long x3)] := hl
  have hH : Hp D cy L C b0 s s.heap I J R s.heap [] := hH
  have sm : Sm C ms_X6_carry (I, J, R) (I, J, R) := Sm.rf
  obtain ⟨TT0, hT⟩ : ∃ TT0, TT0 = F_X6_carry a0 x1 x2 x3 I J R := ⟨_, rfl⟩
  have hv := hT
  unfold F_X6_carry at hv
  refine lv_aload_n hx hb dX6_carry_0 rfl (lv_at hl 0 rfl) ?_
  refine lv_lload_n hx hb dX6_carry_1 rfl (lv_at hl 3 rfl) ?_
  refine pf_6_10 hx hb hts hown hH m0 k0 rfl kf_X6_44 dX6_carry_2 (fun J1 H locs eJ1 hH => ?_)
  replace hv := fnS hv eJ1
  have sm : Sm C ms_X6_carry (I, J, R) (I, J1, R) := by rw [eJ1]; exact sm.stJ k0 (mC_obj (by decide) rfl)
  refine lv_iload_n hx hb dX6_carry_5 rfl (lv_at hl 1 rfl) ?_
  refine lv_istore (lv' := [(5, .int x1), (0, .ref a0), (1, .int x1), (2, .int x2), (3, .long x3)]) hx hb dX6_carry_6 hl (by decide) rfl (fun ls hl => ?_)
  refine lv_iconst (v := 0) hx hb dX6_carry_8 (by decide) ?_
  refine lv_istore (lv' := [(6, .int 0), (5, .int x1), (0, .ref a0), (1, .int x1), (2, .int x2), (3, .long x3)]) hx hb dX6_carry_9 hl (by decide) rfl (fun ls hl => ?_)
  have L_80 : ∀ (I_80 : hI) (J_80 : hJ) (H : Heap) (locs : List Loc) (ls : Array Slot), Hp D cy L C b0 s s.heap I_80 J_80 R H locs → TT0 = F_X6_carry_80 a0 x1 x2 x3 I_80 J_80 R → OkI L C I_80 → Sm C ms_X6_carry (I, J, R) (I_80, J_80, R) → lv_has ls 8 [] → W p l e (rmD 2) s m args below meth c H locs 0 0 Q (F0 m 80 ls []) := by
    intro I_80 J_80 H locs ls hH hv oI sm hl
    unfold F_X6_carry_80 at hv
    refine lv_iconst (v := 1) hx hb dX6_carry_80 (by decide) ?_
    exact ret (1) _ _ _ _ _ _ _ dX6_carry_81 hH (Rg_01 (Rg_w (Rg_c (x := 1) (a := (1)) (b := (1)) (by decide)) (by decide))) ⟨⟨oI, oR, sm⟩, rfl, (Rg_w (Rg_c (x := 1) (a := (1)) (b := (1)) (by decide)) (by decide)), (hT.symm.trans hv)⟩
  have L_11 : ∀ (n_11 : Nat) (I_11 : hI) (J_11 : hJ) (H : Heap) (locs : List Loc) (ls : Array Slot) (x5_11 : Int32) (x6_11 : Int32), (7 - x6_11.toInt).toNat < n_11 → Hp D cy L C b0 s s.heap I_11 J_11 R H locs → TT0 = F_X6_carry_11 a0 x1 x2 x3 n_11 I_11 J_11 R x5_11 x6_11 → OkI L C I_11 → Sm C ms_X6_carry (I, J, R) (I_11, J_11, R) → Rg x2 (0) (6) → Rg x5_11 (0) (6) → Rg x6_11 (0) (7) → lv_has ls 8 [(0, .ref a0), (2, .int x2), (5, .int x5_11), (6, .int x6_11)] → W p l e (rmD 2) s m args below meth c H locs 0 0 Q (F0 m 11 ls []) := by
    intro n_11
    induction n_11 with
    | zero => intro I_11 J_11 H locs ls x5_11 x6_11 h; exact absurd h (Nat.not_lt_zero _)
    | succ n_11 ih_11 =>
      intro I_11 J_11 H locs ls x5_11 x6_11 hn_11 hH hv oI sm r2_11 r5_11 r6_11 hl
      replace hv := hv.trans F_X6_carry_11_s
      unfold B_X6_carry_11 at hv
      have L_63 : ∀ (I_63 : hI) (J_63 : hJ) (H : Heap) (locs : List Loc) (ls : Array Slot), Hp D cy L C b0 s s.heap I_63 J_63 R H locs → TT0 = F_X6_carry_63 a0 x1 x2 x3 x5_11 x6_11 (F_X6_carry_11 a0 x1 x2 x3 n_11) I_63 J_63 R → OkI L C I_63 → Sm C ms_X6_carry (I, J, R) (I_63, J_63, R) → lv_has ls 8 [] → W p l e (rmD 2) s m args below meth c H locs 0 0 Q (F0 m 63 ls []) := by
        intro I_63 J_63 H locs ls hH hv oI sm hl
        unfold F_X6_carry_63 at hv
        refine lv_iconst (v := 0) hx hb dX6_carry_63 (by decide) ?_
        exact ret (0) _ _ _ _ _ _ _ dX6_carry_64 hH (Rg_01 (Rg_w (Rg_c (x := 0) (a := (0)) (b := (0)) (by decide)) (by decide))) ⟨⟨oI, oR, sm⟩, rfl, (Rg_w (Rg_c (x := 0) (a := (0)) (b := (0)) (by decide)) (by decide)), (hT.symm.trans hv)⟩
      refine lv_iload hx hb dX6_carry_11 (lv_at hl 3 rfl) ?_
      refine lv_bipush (v := 7) hx hb dX6_carry_13 (by decide) ?_
      refine lv_icmp_ge (tgt := 80) hx hb dX6_carry_15 (by decide) (fun q2 => ?_) (fun q2 => ?_)
      · replace hv := fnP hv q2
        have r3 : Rg x6_11 (7) (7) := Rg_lle r6_11 (Rg_le q2) (Rg_c (x := 7) (a := (7)) (b := (7)) (by decide)) (by decide)
        exact L_80 I_11 J_11 _ _ _ hH hv oI sm (lv_sub hl [] rfl)
      replace hv := fnN hv q2
      have r4 : Rg x6_11 (0) (6) := Rg_ult r6_11 (Rg_nle q2) (Rg_c (x := 7) (a := (7)) (b := (7)) (by decide)) (by decide)
      refine lv_iload hx hb dX6_carry_18 (lv_at hl 2 rfl) ?_
      refine lv_iload_n hx hb dX6_carry_20 rfl (lv_at hl 1 rfl) ?_
      refine lv_icmp_eq (tgt := 80) hx hb dX6_carry_21 (by decide) (fun q5 => ?_) (fun q5 => ?_)
      · replace hv := fnP hv q5
        exact L_80 I_11 J_11 _ _ _ hH hv oI sm (lv_sub hl [] rfl)
      replace hv := fnN hv q5
      refine lv_aload_n hx hb dX6_carry_24 rfl (lv_at hl 0 rfl) ?_
      obtain ⟨b6, mb6, vb6, kb6⟩ := rf_6_9 oR m0 k0
      replace hv := fnR hv vb6
      refine gf_6_9 vb6 hx hb hts hown hH m0 k0 rfl kf_X6_41 dX6_carry_25 ?_
      refine lv_iload hx hb dX6_carry_28 (lv_at hl 2 rfl) ?_
      refine lv_bipush (v := 7) hx hb dX6_carry_30 (by decide) ?_
      refine lv_imul hx hb dX6_carry_32 ?_
      refine lv_topi (fun y7 ey7 => ?_)
      replace hv := fnS hv ey7
      obtain ⟨ty7, ry7⟩ := Rg_mulx (a' := (0)) (b' := (42)) (rfl : x5_11.toInt = _) (by decide : Int32.toInt 7 = 7) r5_11 (Rg_c (x := 7) (a := (7)) (b := (7)) (by decide)) (by decide)
      rw [← ey7] at ty7 ry7
      refine lv_iload_n hx hb dX6_carry_33 rfl (lv_at hl 1 rfl) ?_
      refine lv_iadd hx hb dX6_carry_34 ?_
      refine lv_topi (fun y8 ey8 => ?_)
      replace hv := fnS hv ey8
      obtain ⟨ty8, ry8⟩ := Rg_addx (a' := (0)) (b' := (48)) (rfl : y7.toInt = _) (rfl : x2.toInt = _) ry7 r2_11 (by decide)
      rw [← ey8] at ty8 ry8
      refine ld_39 hx hb hH mb6 kb6 (Rg_in ry8 (by decide)) dX6_carry_35 ?_
      refine lv_topi (fun y9 ey9 => ?_)
      have ry9 : Rg y9 (-1) (31) := by rw [ey9]; exact rd_39 oI mb6 kb6 (Rg_in ry8 (by decide))
      replace hv := fnS hv ey9
      refine lv_istore (lv' := [(7, .int y9), (0, .ref a0), (2, .int x2), (5, .int x5_11), (6, .int x6_11)]) hx hb dX6_carry_36 hl (by decide) rfl (fun ls hl => ?_)
      refine lv_aload_n hx hb dX6_carry_38 rfl (lv_at hl 1 rfl) ?_
      refine lv_iload hx hb dX6_carry_39 (lv_at hl 0 rfl) ?_
      refine pf_6_11 hx hb hts hown hH m0 k0 rfl kf_X6_48 dX6_carry_41 (fun I10 H locs eI10 hH => ?_)
      replace hv := fnS hv eI10
      have oI : OkI L C I10 := by rw [eI10]; exact wf_6_11 oI k0 (Rg_w ry9 (by decide))
      have sm : Sm C ms_X6_carry (I, J, R) (I10, J_11, R) := by rw [eI10]; exact sm.stI k0 (mC_obj (by decide) rfl)
      have f11 : y9 = I10 a0 11 := by rw [eI10, u2_at]
      refine lv_iload hx hb dX6_carry_44 (lv_at hl 0 rfl) ?_
      refine lv_iconst (v := (-1)) hx hb dX6_carry_46 (by decide) ?_
      refine lv_icmp_eq (tgt := 63) hx hb dX6_carry_47 (by decide) (fun q12 => ?_) (fun q12 => ?_)
      · replace hv := fnP hv q12
        have r13 : Rg y9 (-1) (-1) := Rg_both ry9 (Rg_eqv q12 (Rg_c (x := (-1)) (a := (-1)) (b := (-1)) (by decide))) (by decide)
        exact L_63 I10 J_11 _ _ _ hH hv oI sm (lv_sub hl [] rfl)
      replace hv := fnN hv q12
      have r14 : Rg y9 (0) (31) := Rg_nelo ry9 (Rg_ne q12) (Rg_c (x := (-1)) (a := (-1)) (b := (-1)) (by decide)) (by decide)
      refine lv_aload_n hx hb dX6_carry_50 rfl (lv_at hl 1 rfl) ?_
      refine lv_iload hx hb dX6_carry_51 (lv_at hl 0 rfl) ?_
      refine lv_aload_n hx hb dX6_carry_53 rfl (lv_at hl 1 rfl) ?_
      refine gf_6_10 hx hb hts hown hH m0 k0 rfl kf_X6_44 dX6_carry_54 ?_
      refine lv_topl (fun w15 ew15 => ?_)
      replace hv := fnS hv ew15
      refine ca_X6_75 hx hb hml hown hts hH (c_X6_follow oI oR m0 k0 r14) hl.1 m0 k0 rfl (by decide) (Nat.le_of_ble_eq_true rfl) ⟨Nat.zero_le _, Nat.zero_le _⟩ dX6_carry_57 (fun y16 I16 J16 R16 H locs hp hH => ?_)
      obtain ⟨⟨-, -, sc16⟩, eI16, eR16, ry16, hf16⟩ := hp
      obtain rfl : I10 = I16 := eI16.symm
      obtain rfl : R = R16 := eR16.symm
      replace hv := fnC hv hf16
      have sm : Sm C ms_X6_carry (I, J, R) (I10, J16, R) := sm.tr sc16 rfl
      refine lv_if_ne (tgt := 65) hx hb dX6_carry_60 (by decide) (fun q17 => ?_) (fun q17 => ?_)
      rotate_left
      · replace hv := fnP hv q17
        have r22 : Rg y16 (0) (0) := Rg_both ry16 (Rg_eqv q17 (Rg_c (x := 0) (a := (0)) (b := (0)) (by decide))) (by decide)
        exact L_63 I10 J16 _ _ _ hH hv oI sm (lv_sub hl [] rfl)
      replace hv := fnN hv q17
      have r18 : Rg y16 (1) (1) := Rg_nelo ry16 (Rg_ne q17) (Rg_c (x := 0) (a := (0)) (b := (0)) (by decide)) (by decide)
      refine lv_aload_n hx hb dX6_carry_65 rfl (lv_at hl 1 rfl) ?_
      obtain ⟨b19, mb19, vb19, kb19⟩ := rf_6_1 oR m0 k0
      replace hv := fnR hv vb19
      refine gf_6_1 vb19 hx hb hts hown hH m0 k0 rfl kf_X6_15 dX6_carry_66 ?_
      refine lv_iload hx hb dX6_carry_69 (lv_at hl 0 rfl) ?_
      refine ld_33 hx hb hH mb19 kb19 (Rg_in r14 (by decide)) dX6_carry_71 ?_
      refine lv_topi (fun y20 ey20 => ?_)
      have ry20 : Rg y20 (0) (6) := by rw [ey20]; exact rd_33 oI mb19 kb19 (Rg_in r14 (by decide))
      replace hv := fnS hv ey20
      refine lv_istore (lv' := [(5, .int y20), (7, .int y9), (0, .ref a0), (2, .int x2), (6, .int x6_11)]) hx hb dX6_carry_72 hl (by decide) rfl (fun ls hl => ?_)
      obtain ⟨y21, ey21⟩ : ∃ y : Int32, y = x6_11 + 1 := ⟨_, rfl⟩
      replace hv := fnS hv ey21
      obtain ⟨ty21, ry21⟩ := Rg_addx (a' := (1)) (b' := (7)) (rfl : x6_11.toInt = _) (by decide : Int32.toInt 1 = 1) r4 (Rg_c (x := 1) (a := (1)) (b := (1)) (by decide)) (by decide)
      rw [← ey21] at ty21 ry21
      refine lv_iinc (v := y21) (lv' := [(6, .int y21), (5, .int y20), (7, .int y9), (0, .ref a0), (2, .int x2)]) hx hb dX6_carry_74 hl (k := 4) rfl (by rw [ey21]; rfl) (by decide) rfl (fun ls hl => ?_)
      refine lv_goto (tgt := 11) hx hb dX6_carry_77 (by decide) ?_
      exact ih_11 I10 J16 _ _ _ y20 y21 (lp_up hn_11 ty21 (Rg_ltc r4 (by decide))) hH hv oI sm r2_11 ry20 (Rg_w ry21 (by decide)) (lv_sub hl [3, 4, 1, 0] rfl)
  exact L_11 ((7 - (0 : Int32).toInt).toNat + 1) I J1 _ _ _ x1 0 (Nat.lt_succ_self _) hH hv oI sm h2 h1 (Rg_w (Rg_c (x := 0) (a := (0)) (b := (0)) (by decide)) (by decide)) (lv_sub hl [2, 4, 1, 0] rfl)
