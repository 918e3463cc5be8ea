noncomputable def F_X9_forgetAll (a0 : Nat) (I : hI) (J : hJ) (R : hR) : hU :=
  nm ((R a0 2).getD 0) fun b1 => nmW (F_J7_fill_45 b1 (-1 : Int32) I J R) fun I2 _ _ => (I2, J, R)
def ms_X9_forgetAll : List Nat := [2880]
set_option maxHeartbeats 4000000 in
set_option maxRecDepth 100000 in
theorem c_X9_forgetAll {l : Launch} {D : va_G} {cy : Nat → ClassId} {L : List Nat} {C : Nat → Nat} {b0 : Nat} {I : hI} {J : hJ} {R : hR} {a0 : Nat} (oI : OkI L C I) (oR : OkR L C R) (m0 : a0 ∈ L) (k0 : C a0 = 9) : CV l yX9_forgetAll cX9_forgetAll 1 1 D cy L C b0 [.ref a0] (I, J, R) (fun v => Ps L C ms_X9_forgetAll (I, J, R) v ∧ v.2.1 = J ∧ v.2.2 = R ∧ F_X9_forgetAll a0 I J R = v) := by
  refine CV.mk (plainFor_of_name (by decide)) (Nat.le_of_ble_eq_true rfl) ?_
  intro p e s m args below meth c ls Q hF ret hH hl
  obtain ⟨hx, hb, -, hml, hown, hts, -⟩ := hF
  have hl : lv_has ls 1 [(0, .ref a0)] := hl
  have hH : Hp D cy L C b0 s s.heap I J R s.heap [] := hH
  have sm : Sm C ms_X9_forgetAll (I, J, R) (I, J, R) := Sm.rf
  obtain ⟨TT0, hT⟩ : ∃ TT0, TT0 = F_X9_forgetAll a0 I J R := ⟨_, rfl⟩
  have hv := hT
  unfold F_X9_forgetAll at hv
  refine lv_aload_n hx hb dX9_forgetAll_0 rfl (lv_at hl 0 rfl) ?_
  obtain ⟨b1, mb1, vb1, kb1⟩ := rf_9_2 oR m0 k0
  replace hv := fnR hv vb1
  refine gf_9_2 vb1 hx hb hts hown hH m0 k0 rfl kf_X9_9 dX9_forgetAll_1 ?_
  refine lv_iconst (v := (-1)) hx hb dX9_forgetAll_4 (by decide) ?_
  refine ca_X9_39 hx hb hml hown hts hH (c_J7_fill_45 oI oR mb1 kb1) hl.1 (by decide) (Nat.le_of_ble_eq_true rfl) ⟨Nat.zero_le _, Nat.zero_le _⟩ dX9_forgetAll_5 (fun I2 J2 R2 H locs hp hH => ?_)
  obtain ⟨⟨oI, -, sc2⟩, eJ2, eR2, hf2⟩ := hp
  obtain rfl : J = J2 := eJ2.symm
  obtain rfl : R = R2 := eR2.symm
  replace hv := fnW hv hf2
  have sm : Sm C ms_X9_forgetAll (I, J, R) (I2, J, R) := sm.tr sc2 rfl
  exact ret _ _ _ _ _ _ _ dX9_forgetAll_8 hH ⟨⟨oI, oR, sm⟩, rfl, rfl, (hT.symm.trans hv)⟩
noncomputable def F_X9_forgetAll_raw (a0 : Nat) (I : hI) (J : hJ) (R : hR) : hU :=
  nmW (F_J7_fill_45 ((R a0 2).getD 0) (-1 : Int32) I J R) fun I1 _ _ => (I1, J, R)
def ms_X9_forgetAll_raw : List Nat := [2880]
set_option maxHeartbeats 4000000 in
set_option maxRecDepth 100000 in
theorem c_X9_forgetAll_raw {l : Launch} {D : va_G} {cy : Nat → ClassId} {L : List Nat} {C : Nat → Nat} {b0 : Nat} {I : hI} {J : hJ} {R : hR} {a0 : Nat} {n2 : Nat} (oI : OkI L C I) (oR : OkR L C R) (m0 : a0 ∈ L) (k0 : C a0 = 25) (mn2 : n2 ∈ L) (vn2 : R a0 2 = some n2) (kn2 : C n2 = 45) : CV l yX9_forgetAll cX9_forgetAll 1 1 D cy L C b0 [.ref a0] (I, J, R) (fun v => Ps L C ms_X9_forgetAll_raw (I, J, R) v ∧ v.2.1 = J ∧ v.2.2 = R ∧ F_X9_forgetAll_raw a0 I J R = v) := by
  refine CV.mk (plainFor_of_name (by decide)) (Nat.le_of_ble_eq_true rfl) ?_
  intro p e s m args below meth c ls Q hF ret hH hl
  obtain ⟨hx, hb, -, hml, hown, hts, -⟩ := hF
  have hl : lv_has ls 1 [(0, .ref a0)] := hl
  have hH : Hp D cy L C b0 s s.heap I J R s.heap [] := hH
  have sm : Sm C ms_X9_forgetAll_raw (I, J, R) (I, J, R) := Sm.rf
  obtain ⟨TT0, hT⟩ : ∃ TT0, TT0 = F_X9_forgetAll_raw a0 I J R := ⟨_, rfl⟩
  have hv := hT
  unfold F_X9_forgetAll_raw at hv
  rw [show (R a0 2).getD 0 = n2 by rw [vn2]; rfl] at hv
  refine lv_aload_n hx hb dX9_forgetAll_0 rfl (lv_at hl 0 rfl) ?_
  refine gf_9_2 vn2 hx hb hts hown hH m0 k0 rfl kf_X9_9 dX9_forgetAll_1 ?_
  refine lv_iconst (v := (-1)) hx hb dX9_forgetAll_4 (by decide) ?_
  refine ca_X9_39 hx hb hml hown hts hH (c_J7_fill_45 oI oR mn2 kn2) hl.1 (by decide) (Nat.le_of_ble_eq_true rfl) ⟨Nat.zero_le _, Nat.zero_le _⟩ dX9_forgetAll_5 (fun I1 J1 R1 H locs hp hH => ?_)
  obtain ⟨⟨oI, -, sc1⟩, eJ1, eR1, hf1⟩ := hp
  obtain rfl : J = J1 := eJ1.symm
  obtain rfl : R = R1 := eR1.symm
  replace hv := fnW hv hf1
  have sm : Sm C ms_X9_forgetAll_raw (I, J, R) (I1, J, R) := sm.tr sc1 rfl
  exact ret _ _ _ _ _ _ _ dX9_forgetAll_8 hH ⟨⟨oI, oR, sm⟩, rfl, rfl, (hT.symm.trans hv)⟩
noncomputable def B_X9_forgetFace_2 (a0 : Nat) (x1 : Int32) (k_2 : hI → hJ → hR → Int32 → (hU)) (I_2 : hI) (J : hJ) (R : hR) (x2_2 : Int32) : hU :=
  (if (10 : Int32) ≤ x2_2 then (I_2, J, R) else nm ((R a0 2).getD 0) fun b4 => nm (x1 * (10 : Int32)) fun y5 => nm (y5 + x2_2) fun y6 => nm (u2 I_2 b4 (Int32.toNatClampNeg y6) (-1 : Int32)) fun I7 => nm (x2_2 * (10 : Int32)) fun y8 => nm (y8 + x1) fun y9 => nm (u2 I7 b4 (Int32.toNatClampNeg y9) (-1 : Int32)) fun I10 => nm (x2_2 + (1 : Int32)) fun y11 => k_2 I10 J R y11)
noncomputable def F_X9_forgetFace_2 (a0 : Nat) (x1 : Int32) : Nat → hI → hJ → hR → Int32 → (hU) := fun n => Nat.rec (motive := fun _ => hI → hJ → hR → Int32 → (hU)) (fun _ _ _ _ => default) (fun _ k => B_X9_forgetFace_2 a0 x1 k) n
theorem F_X9_forgetFace_2_s {a0 : Nat} {x1 : Int32} {n : Nat} {I_2 : hI} {J : hJ} {R : hR} {x2_2 : Int32} : F_X9_forgetFace_2 a0 x1 (n + 1)  I_2 J R x2_2 = B_X9_forgetFace_2 a0 x1 (F_X9_forgetFace_2 a0 x1 n)  I_2 J R x2_2 := rfl
noncomputable def F_X9_forgetFace (a0 : Nat) (x1 : Int32) (I : hI) (J : hJ) (R : hR) : hU :=
  F_X9_forgetFace_2 a0 x1 ((10 - (0 : Int32).toInt).toNat + 1) I J R (0 : Int32)
def ms_X9_forgetFace : List Nat := [2880]
set_option maxHeartbeats 4000000 in
set_option maxRecDepth 100000 in
theorem c_X9_forgetFace {l : Launch} {D : va_G} {cy : Nat → ClassId} {L : List Nat} {C : Nat → Nat} {b0 : Nat} {I : hI} {J : hJ} {R : hR} {a0 : Nat} {x1 : Int32} (oI : OkI L C I) (oR : OkR L C R) (m0 : a0 ∈ L) (k0 : C a0 = 9) (h1 : Rg x1 (0) (9)) : CV l yX9_forgetFace cX9_forgetFace 3 0 D cy L C b0 [.ref a0, .int x1] (I, J, R) (fun v => Ps L C ms_X9_forgetFace (I, J, R) v ∧ v.2.1 = J ∧ v.2.2 = R ∧ F_X9_forgetFace a0 x1 I J R = v) := by
  refine CV.mk (plainFor_of_name (by decide)) (Nat.le_of_ble_eq_true rfl) ?_
  intro p e s m args below meth c ls Q hF ret hH hl
  obtain ⟨hx, hb, -, hml, hown, hts, -⟩ := hF
  have hl : lv_has ls 3 [(0, .ref a0), (1, .int x1)] := hl
  have hH : Hp D cy L C b0 s s.heap I J R s.heap [] := hH
  have sm : Sm C ms_X9_forgetFace (I, J, R) (I, J, R) := Sm.rf
  obtain ⟨TT0, hT⟩ : ∃ TT0, TT0 = F_X9_forgetFace a0 x1 I J R := ⟨_, rfl⟩
  have hv := hT
  unfold F_X9_forgetFace at hv
  refine lv_iconst (v := 0) hx hb dX9_forgetFace_0 (by decide) ?_
  refine lv_istore_n (lv' := [(2, .int 0), (0, .ref a0), (1, .int x1)]) hx hb dX9_forgetFace_1 rfl hl (by decide) rfl (fun ls hl => ?_)
  have L_2 : ∀ (n_2 : Nat) (I_2 : hI) (H : Heap) (locs : List Loc) (ls : Array Slot) (x2_2 : Int32), (10 - x2_2.toInt).toNat < n_2 → Hp D cy L C b0 s s.heap I_2 J R H locs → TT0 = F_X9_forgetFace_2 a0 x1 n_2 I_2 J R x2_2 → OkI L C I_2 → Sm C ms_X9_forgetFace (I, J, R) (I_2, J, R) → Rg x1 (0) (9) → Rg x2_2 (0) (10) → lv_has ls 3 [(0, .ref a0), (1, .int x1), (2, .int x2_2)] → W p l e (rmD 0) s m args below meth c H locs 0 0 Q (F0 m 2 ls []) := by
    intro n_2
    induction n_2 with
    | zero => intro I_2 H locs ls x2_2 h; exact absurd h (Nat.not_lt_zero _)
    | succ n_2 ih_2 =>
      intro I_2 H locs ls x2_2 hn_2 hH hv oI sm r1_2 r2_2 hl
      replace hv := hv.trans F_X9_forgetFace_2_s
      unfold B_X9_forgetFace_2 at hv
      refine lv_iload_n hx hb dX9_forgetFace_2 rfl (lv_at hl 2 rfl) ?_
      refine lv_bipush (v := 10) hx hb dX9_forgetFace_3 (by decide) ?_
      refine lv_icmp_ge (tgt := 38) hx hb dX9_forgetFace_5 (by decide) (fun q1 => ?_) (fun q1 => ?_)
      · replace hv := fnP hv q1
        have r2 : Rg x2_2 (10) (10) := Rg_lle r2_2 (Rg_le q1) (Rg_c (x := 10) (a := (10)) (b := (10)) (by decide)) (by decide)
        exact ret _ _ _ _ _ _ _ dX9_forgetFace_38 hH ⟨⟨oI, oR, sm⟩, rfl, rfl, (hT.symm.trans hv)⟩
      replace hv := fnN hv q1
      have r3 : Rg x2_2 (0) (9) := Rg_ult r2_2 (Rg_nle q1) (Rg_c (x := 10) (a := (10)) (b := (10)) (by decide)) (by decide)
      refine lv_aload_n hx hb dX9_forgetFace_8 rfl (lv_at hl 0 rfl) ?_
      obtain ⟨b4, mb4, vb4, kb4⟩ := rf_9_2 oR m0 k0
      replace hv := fnR hv vb4
      refine gf_9_2 vb4 hx hb hts hown hH m0 k0 rfl kf_X9_9 dX9_forgetFace_9 ?_
      refine lv_iload_n hx hb dX9_forgetFace_12 rfl (lv_at hl 1 rfl) ?_
      refine lv_bipush (v := 10) hx hb dX9_forgetFace_13 (by decide) ?_
      refine lv_imul hx hb dX9_forgetFace_15 ?_
      refine lv_topi (fun y5 ey5 => ?_)
      replace hv := fnS hv ey5
      obtain ⟨ty5, ry5⟩ := Rg_mulx (a' := (0)) (b' := (90)) (rfl : x1.toInt = _) (by decide : Int32.toInt 10 = 10) r1_2 (Rg_c (x := 10) (a := (10)) (b := (10)) (by decide)) (by decide)
      rw [← ey5] at ty5 ry5
      refine lv_iload_n hx hb dX9_forgetFace_16 rfl (lv_at hl 2 rfl) ?_
      refine lv_iadd hx hb dX9_forgetFace_17 ?_
      refine lv_topi (fun y6 ey6 => ?_)
      replace hv := fnS hv ey6
      obtain ⟨ty6, ry6⟩ := Rg_addx (a' := (0)) (b' := (99)) (rfl : y5.toInt = _) (rfl : x2_2.toInt = _) ry5 r3 (by decide)
      rw [← ey6] at ty6 ry6
      refine lv_iconst (v := (-1)) hx hb dX9_forgetFace_18 (by decide) ?_
      refine st_45 hx hb hH mb4 kb4 (Rg_in ry6 (by decide)) dX9_forgetFace_19 (fun I7 H locs eI7 hH => ?_)
      replace hv := fnS hv eI7
      have oI : OkI L C I7 := by rw [eI7]; exact wr_45 oI kb4 (Rg_w (Rg_c (x := (-1)) (a := (-1)) (b := (-1)) (by decide)) (by decide))
      have sm : Sm C ms_X9_forgetFace (I, J, R) (I7, J, R) := by rw [eI7]; exact sm.stI kb4 (mC_arr (by decide) rfl)
      refine lv_aload_n hx hb dX9_forgetFace_20 rfl (lv_at hl 0 rfl) ?_
      refine gf_9_2 vb4 hx hb hts hown hH m0 k0 rfl kf_X9_9 dX9_forgetFace_21 ?_
      refine lv_iload_n hx hb dX9_forgetFace_24 rfl (lv_at hl 2 rfl) ?_
      refine lv_bipush (v := 10) hx hb dX9_forgetFace_25 (by decide) ?_
      refine lv_imul hx hb dX9_forgetFace_27 ?_
      refine lv_topi (fun y8 ey8 => ?_)
      replace hv := fnS hv ey8
      obtain ⟨ty8, ry8⟩ := Rg_mulx (a' := (0)) (b' := (90)) (rfl : x2_2.toInt = _) (by decide : Int32.toInt 10 = 10) r3 (Rg_c (x := 10) (a := (10)) (b := (10)) (by decide)) (by decide)
      rw [← ey8] at ty8 ry8
      refine lv_iload_n hx hb dX9_forgetFace_28 rfl (lv_at hl 1 rfl) ?_
      refine lv_iadd hx hb dX9_forgetFace_29 ?_
      refine lv_topi (fun y9 ey9 => ?_)
      replace hv := fnS hv ey9
      obtain ⟨ty9, ry9⟩ := Rg_addx (a' := (0)) (b' := (99)) (rfl : y8.toInt = _) (rfl : x1.toInt = _) ry8 r1_2 (by decide)
      rw [← ey9] at ty9 ry9
      refine lv_iconst (v := (-1)) hx hb dX9_forgetFace_30 (by decide) ?_
      refine st_45 hx hb hH mb4 kb4 (Rg_in ry9 (by decide)) dX9_forgetFace_31 (fun I10 H locs eI10 hH => ?_)
      replace hv := fnS hv eI10
      have oI : OkI L C I10 := by rw [eI10]; exact wr_45 oI kb4 (Rg_w (Rg_c (x := (-1)) (a := (-1)) (b := (-1)) (by decide)) (by decide))
      have sm : Sm C ms_X9_forgetFace (I, J, R) (I10, J, R) := by rw [eI10]; exact sm.stI kb4 (mC_arr (by decide) rfl)
      obtain ⟨y11, ey11⟩ : ∃ y : Int32, y = x2_2 + 1 := ⟨_, rfl⟩
      replace hv := fnS hv ey11
      obtain ⟨ty11, ry11⟩ := Rg_addx (a' := (1)) (b' := (10)) (rfl : x2_2.toInt = _) (by decide : Int32.toInt 1 = 1) r3 (Rg_c (x := 1) (a := (1)) (b := (1)) (by decide)) (by decide)
      rw [← ey11] at ty11 ry11
      refine lv_iinc (v := y11) (lv' := [(2, .int y11), (0, .ref a0), (1, .int x1)]) hx hb dX9_forgetFace_32 hl (k := 2) rfl (by rw [ey11]; rfl) (by decide) rfl (fun ls hl => ?_)
      refine lv_goto (tgt := 2) hx hb dX9_forgetFace_35 (by decide) ?_
      exact ih_2 I10 _ _ _ y11 (lp_up hn_2 ty11 (Rg_ltc r3 (by decide))) hH hv oI sm r1_2 (Rg_w ry11 (by decide)) (lv_sub hl [1, 2, 0] rfl)
  exact L_2 ((10 - (0 : Int32).toInt).toNat + 1) I _ _ _ 0 (Nat.lt_succ_self _) hH hv oI sm h1 (Rg_w (Rg_c (x := 0) (a := (0)) (b := (0)) (by decide)) (by decide)) (lv_sub hl [1, 2, 0] rfl)
noncomputable def F_X9_weigh_96 (a0 : Nat) (x1_2 : Int32) (k_2 : hI → hJ → hR → Int32 → (hU)) (I_96 : hI) (J : hJ) (R : hR) : hU :=
  nm (x1_2 + (1 : Int32)) fun y1 => k_2 I_96 J R y1
noncomputable def F_X9_weigh_95 (a0 : Nat) (x1_2 : Int32) (k_2 : hI → hJ → hR → Int32 → (hU)) (I_95 : hI) (J : hJ) (R : hR) (xs0_95 : Int32) (xs2_95 : Nat) : hU :=
  nm (u2 I_95 xs2_95 (Int32.toNatClampNeg x1_2) xs0_95) fun I2 => F_X9_weigh_96 a0 x1_2 k_2 I2 J R
noncomputable def F_X9_weigh_69 (a0 : Nat) (x1_2 : Int32) (k_2 : hI → hJ → hR → Int32 → (hU)) (I_69 : hI) (J : hJ) (R : hR) (xs0_69 : Int32) : hU :=
  nm ((R a0 2).getD 0) fun b3 => (if xs0_69 = (-6 : Int32) then F_X9_weigh_95 a0 x1_2 k_2 I_69 J R (268435456 : Int32) b3 else nm ((16 : Int32) * xs0_69) fun y5 => nm (y5 + (1 : Int32)) fun y6 => F_X9_weigh_95 a0 x1_2 k_2 I_69 J R y6 b3)
noncomputable def B_X9_weigh_2 (a0 : Nat) (k_2 : hI → hJ → hR → Int32 → (hU)) (I_2 : hI) (J : hJ) (R : hR) (x1_2 : Int32) : hU :=
  (if (100 : Int32) ≤ x1_2 then (I_2, J, R) else nm ((R a0 2).getD 0) fun b11 => nm (I_2 b11 (Int32.toNatClampNeg x1_2)) fun y12 => (if y12 = (-1 : Int32) then nm ((R a0 1).getD 0) fun b15 => nm (x1_2 / (10 : Int32)) fun y16 => nm ((10 : Int32) + y16) fun y17 => nm ((R b15 (Int32.toNatClampNeg y17)).getD 0) fun b18 => nm (x1_2 - x1_2 / (10 : Int32) * (10 : Int32)) fun y19 => nm ((10 : Int32) + y19) fun y20 => nm ((R b15 (Int32.toNatClampNeg y20)).getD 0) fun b21 => (if y16 = y19 then F_X9_weigh_69 a0 x1_2 k_2 I_2 J R (-6 : Int32) else nm ((R a0 0).getD 0) fun b25 => nmU (F_X3_costOfAll b25 b21 b18 I_2 J R) fun y26 I26 _ _ => F_X9_weigh_69 a0 x1_2 k_2 I26 J R y26) else F_X9_weigh_96 a0 x1_2 k_2 I_2 J R))
noncomputable def F_X9_weigh_2 (a0 : Nat) : Nat → hI → hJ → hR → Int32 → (hU) := fun n => Nat.rec (motive := fun _ => hI → hJ → hR → Int32 → (hU)) (fun _ _ _ _ => default) (fun _ k => B_X9_weigh_2 a0 k) n
theorem F_X9_weigh_2_s {a0 : Nat} {n : Nat} {I_2 : hI} {J : hJ} {R : hR} {x1_2 : Int32} : F_X9_weigh_2 a0 (n + 1)  I_2 J R x1_2 = B_X9_weigh_2 a0 (F_X9_weigh_2 a0 n)  I_2 J R x1_2 := rfl
noncomputable def F_X9_weigh (a0 : Nat) (I : hI) (J : hJ) (R : hR) : hU :=
  F_X9_weigh_2 a0 ((100 - (0 : Int32).toInt).toNat + 1) I J R (0 : Int32)
def ms_X9_weigh : List Nat := [196, 197, 2752, 2816, 2880]
set_option maxHeartbeats 4000000 in
set_option maxRecDepth 100000 in
theorem c_X9_weigh {l : Launch} {D : va_G} {cy : Nat → ClassId} {L : List Nat} {C : Nat → Nat} {b0 : Nat} {I : hI} {J : hJ} {R : hR} {a0 : Nat} (oI : OkI L C I) (oR : OkR L C R) (m0 : a0 ∈ L) (k0 : C a0 = 9) : CV l yX9_weigh cX9_weigh 5 13 D cy L C b0 [.ref a0] (I, J, R) (fun v => Ps L C ms_X9_weigh (I, J, R) v ∧ v.2.1 = J ∧ v.2.2 = R ∧ F_X9_weigh a0 I J R = v) := by
  refine CV.mk (plainFor_of_name (by decide)) (Nat.le_of_ble_eq_true rfl) ?_
  intro p e s m args below meth c ls Q hF ret hH hl
  obtain ⟨hx, hb, -, hml, hown, hts, -⟩ := hF
  have hl : lv_has ls 5 [(0, .ref a0)] := hl
  have hH : Hp D cy L C b0 s s.heap I J R s.heap [] := hH
  have sm : Sm C ms_X9_weigh (I, J, R) (I, J, R) := Sm.rf
  obtain ⟨TT0, hT⟩ : ∃ TT0, TT0 = F_X9_weigh a0 I J R := ⟨_, rfl⟩
  have hv := hT
  unfold F_X9_weigh at hv
  refine lv_iconst (v := 0) hx hb dX9_weigh_0 (by decide) ?_
  refine lv_istore_n (lv' := [(1, .int 0), (0, .ref a0)]) hx hb dX9_weigh_1 rfl hl (by decide) rfl (fun ls hl => ?_)
  have L_2 : ∀ (n_2 : Nat) (I_2 : hI) (H : Heap) (locs : List Loc) (ls : Array Slot) (x1_2 : Int32), (100 - x1_2.toInt).toNat < n_2 → Hp D cy L C b0 s s.heap I_2 J R H locs → TT0 = F_X9_weigh_2 a0 n_2 I_2 J R x1_2 → OkI L C I_2 → Sm C ms_X9_weigh (I, J, R) (I_2, J, R) → Rg x1_2 (0) (100) → lv_has ls 5 [(0, .ref a0), (1, .int x1_2)] → W p l e (rmD 13) s m args below meth c H locs 0 0 Q (F0 m 2 ls []) := by
    intro n_2
    induction n_2 with
    | zero => intro I_2 H locs ls x1_2 h; exact absurd h (Nat.not_lt_zero _)
    | succ n_2 ih_2 =>
      intro I_2 H locs ls x1_2 hn_2 hH hv oI sm r1_2 hl
      replace hv := hv.trans F_X9_weigh_2_s
      unfold B_X9_weigh_2 at hv
      have L_96 : ∀ (I_96 : hI) (H : Heap) (locs : List Loc) (ls : Array Slot), Hp D cy L C b0 s s.heap I_96 J R H locs → TT0 = F_X9_weigh_96 a0 x1_2 (F_X9_weigh_2 a0 n_2) I_96 J R → OkI L C I_96 → Sm C ms_X9_weigh (I, J, R) (I_96, J, R) → Rg x1_2 (0) (99) → lv_has ls 5 [(0, .ref a0), (1, .int x1_2)] → W p l e (rmD 13) s m args below meth c H locs 0 0 Q (F0 m 96 ls []) := by
        intro I_96 H locs ls hH hv oI sm r1_96 hl
        unfold F_X9_weigh_96 at hv
        obtain ⟨y1, ey1⟩ : ∃ y : Int32, y = x1_2 + 1 := ⟨_, rfl⟩
        replace hv := fnS hv ey1
        obtain ⟨ty1, ry1⟩ := Rg_addx (a' := (1)) (b' := (100)) (rfl : x1_2.toInt = _) (by decide : Int32.toInt 1 = 1) r1_96 (Rg_c (x := 1) (a := (1)) (b := (1)) (by decide)) (by decide)
        rw [← ey1] at ty1 ry1
        refine lv_iinc (v := y1) (lv' := [(1, .int y1), (0, .ref a0)]) hx hb dX9_weigh_96 hl (k := 1) rfl (by rw [ey1]; rfl) (by decide) rfl (fun ls hl => ?_)
        refine lv_goto (tgt := 2) hx hb dX9_weigh_99 (by decide) ?_
        exact ih_2 I_96 _ _ _ y1 (lp_up hn_2 ty1 (Rg_ltc r1_96 (by decide))) hH hv oI sm (Rg_w ry1 (by decide)) (lv_sub hl [1, 0] rfl)
      have L_95 : ∀ (I_95 : hI) (H : Heap) (locs : List Loc) (ls : Array Slot) (xs0_95 : Int32) (xs2_95 : Nat), Hp D cy L C b0 s s.heap I_95 J R H locs → TT0 = F_X9_weigh_95 a0 x1_2 (F_X9_weigh_2 a0 n_2) I_95 J R xs0_95 xs2_95 → OkI L C I_95 → Sm C ms_X9_weigh (I, J, R) (I_95, J, R) → Rg x1_2 (0) (99) → xs2_95 ∈ L → C xs2_95 = 45 → Rg x1_2 (0) (99) → lv_has ls 5 [(0, .ref a0), (1, .int x1_2)] → W p l e (rmD 13) s m args below meth c H locs 0 0 Q (F0 m 95 ls [.int xs0_95, .int x1_2, .ref xs2_95]) := by
        intro I_95 H locs ls xs0_95 xs2_95 hH hv oI sm rs1_95 ms2_95 ks2_95 r1_95 hl
        unfold F_X9_weigh_95 at hv
        refine st_45 hx hb hH ms2_95 ks2_95 (Rg_in rs1_95 (by decide)) dX9_weigh_95 (fun I2 H locs eI2 hH => ?_)
        replace hv := fnS hv eI2
        have oI : OkI L C I2 := by rw [eI2]; exact wr_45 oI ks2_95 (Rg_any xs0_95)
        have sm : Sm C ms_X9_weigh (I, J, R) (I2, J, R) := by rw [eI2]; exact sm.stI ks2_95 (mC_arr (by decide) rfl)
        exact L_96 I2 _ _ _ hH hv oI sm r1_95 (lv_sub hl [0, 1] rfl)
      have L_69 : ∀ (I_69 : hI) (H : Heap) (locs : List Loc) (ls : Array Slot) (xs0_69 : Int32), Hp D cy L C b0 s s.heap I_69 J R H locs → TT0 = F_X9_weigh_69 a0 x1_2 (F_X9_weigh_2 a0 n_2) I_69 J R xs0_69 → OkI L C I_69 → Sm C ms_X9_weigh (I, J, R) (I_69, J, R) → Rg x1_2 (0) (99) → lv_has ls 5 [(0, .ref a0), (1, .int x1_2)] → W p l e (rmD 13) s m args below meth c H locs 0 0 Q (F0 m 69 ls [.int xs0_69]) := by
        intro I_69 H locs ls xs0_69 hH hv oI sm r1_69 hl
        unfold F_X9_weigh_69 at hv
        refine lv_istore (lv' := [(4, .int xs0_69), (0, .ref a0), (1, .int x1_2)]) hx hb dX9_weigh_69 hl (by decide) rfl (fun ls hl => ?_)
        refine lv_aload_n hx hb dX9_weigh_71 rfl (lv_at hl 1 rfl) ?_
        obtain ⟨b3, mb3, vb3, kb3⟩ := rf_9_2 oR m0 k0
        replace hv := fnR hv vb3
        refine gf_9_2 vb3 hx hb hts hown hH m0 k0 rfl kf_X9_9 dX9_weigh_72 ?_
        refine lv_iload_n hx hb dX9_weigh_75 rfl (lv_at hl 2 rfl) ?_
        refine lv_iload hx hb dX9_weigh_76 (lv_at hl 0 rfl) ?_
        refine lv_bipush (v := (-6)) hx hb dX9_weigh_78 (by decide) ?_
        refine lv_icmp_ne (tgt := 88) hx hb dX9_weigh_80 (by decide) (fun q4 => ?_) (fun q4 => ?_)
        rotate_left
        · replace hv := fnP hv q4
          have r7 : Rg xs0_69 (-6) (-6) := Rg_both (Rg_any xs0_69) (Rg_eqv q4 (Rg_c (x := (-6)) (a := (-6)) (b := (-6)) (by decide))) (by decide)
          refine lv_ldc (v := 268435456) hx hb hown (hts _ kk_X9_52) dX9_weigh_83 ?_
          refine lv_goto (tgt := 95) hx hb dX9_weigh_85 (by decide) ?_
          exact L_95 I_69 _ _ _ 268435456 b3 hH hv oI sm r1_69 mb3 kb3 r1_69 (lv_sub hl [1, 2] rfl)
        replace hv := fnN hv q4
        refine lv_bipush (v := 16) hx hb dX9_weigh_88 (by decide) ?_
        refine lv_iload hx hb dX9_weigh_90 (lv_at hl 0 rfl) ?_
        refine lv_imul hx hb dX9_weigh_92 ?_
        refine lv_topi (fun y5 ey5 => ?_)
        replace hv := fnS hv ey5
        refine lv_iconst (v := 1) hx hb dX9_weigh_93 (by decide) ?_
        refine lv_iadd hx hb dX9_weigh_94 ?_
        refine lv_topi (fun y6 ey6 => ?_)
        replace hv := fnS hv ey6
        exact L_95 I_69 _ _ _ y6 b3 hH hv oI sm r1_69 mb3 kb3 r1_69 (lv_sub hl [1, 2] rfl)
      refine lv_iload_n hx hb dX9_weigh_2 rfl (lv_at hl 1 rfl) ?_
      refine lv_bipush (v := 100) hx hb dX9_weigh_3 (by decide) ?_
      refine lv_icmp_ge (tgt := 102) hx hb dX9_weigh_5 (by decide) (fun q8 => ?_) (fun q8 => ?_)
      · replace hv := fnP hv q8
        have r9 : Rg x1_2 (100) (100) := Rg_lle r1_2 (Rg_le q8) (Rg_c (x := 100) (a := (100)) (b := (100)) (by decide)) (by decide)
        exact ret _ _ _ _ _ _ _ dX9_weigh_102 hH ⟨⟨oI, oR, sm⟩, rfl, rfl, (hT.symm.trans hv)⟩
      replace hv := fnN hv q8
      have r10 : Rg x1_2 (0) (99) := Rg_ult r1_2 (Rg_nle q8) (Rg_c (x := 100) (a := (100)) (b := (100)) (by decide)) (by decide)
      refine lv_aload_n hx hb dX9_weigh_8 rfl (lv_at hl 0 rfl) ?_
      obtain ⟨b11, mb11, vb11, kb11⟩ := rf_9_2 oR m0 k0
      replace hv := fnR hv vb11
      refine gf_9_2 vb11 hx hb hts hown hH m0 k0 rfl kf_X9_9 dX9_weigh_9 ?_
      refine lv_iload_n hx hb dX9_weigh_12 rfl (lv_at hl 1 rfl) ?_
      refine ld_45 hx hb hH mb11 kb11 (Rg_in r10 (by decide)) dX9_weigh_13 ?_
      refine lv_topi (fun y12 ey12 => ?_)
      replace hv := fnS hv ey12
      refine lv_iconst (v := (-1)) hx hb dX9_weigh_14 (by decide) ?_
      refine lv_icmp_ne (tgt := 96) hx hb dX9_weigh_15 (by decide) (fun q13 => ?_) (fun q13 => ?_)
      · replace hv := fnN hv q13
        exact L_96 I_2 _ _ _ hH hv oI sm r10 (lv_sub hl [0, 1] rfl)
      replace hv := fnP hv q13
      have r14 : Rg y12 (-1) (-1) := Rg_both (Rg_any y12) (Rg_eqv q13 (Rg_c (x := (-1)) (a := (-1)) (b := (-1)) (by decide))) (by decide)
      refine lv_aload_n hx hb dX9_weigh_18 rfl (lv_at hl 0 rfl) ?_
      obtain ⟨b15, mb15, vb15, kb15⟩ := rf_9_1 oR m0 k0
      replace hv := fnR hv vb15
      refine gf_9_1 vb15 hx hb hts hown hH m0 k0 rfl kf_X9_32 dX9_weigh_19 ?_
      refine lv_bipush (v := 10) hx hb dX9_weigh_22 (by decide) ?_
      refine lv_iload_n hx hb dX9_weigh_24 rfl (lv_at hl 1 rfl) ?_
      refine lv_bipush (v := 10) hx hb dX9_weigh_25 (by decide) ?_
      refine lv_idiv hx hb dX9_weigh_27 (by decide) ?_
      refine lv_topi (fun y16 ey16 => ?_)
      replace hv := fnS hv ey16
      obtain ⟨ty16, ry16⟩ := Rg_divx (a' := (0)) (b' := (9)) (rfl : x1_2.toInt = _) (by decide : Int32.toInt 10 = 10) r10 (Rg_c (x := 10) (a := (10)) (b := (10)) (by decide)) (by decide)
      rw [← ey16] at ty16 ry16
      refine lv_iadd hx hb dX9_weigh_28 ?_
      refine lv_topi (fun y17 ey17 => ?_)
      replace hv := fnS hv ey17
      obtain ⟨ty17, ry17⟩ := Rg_addx (a' := (10)) (b' := (19)) (by decide : Int32.toInt 10 = 10) (rfl : y16.toInt = _) (Rg_c (x := 10) (a := (10)) (b := (10)) (by decide)) ry16 (by decide)
      rw [← ey17] at ty17 ry17
      obtain ⟨b18, mb18, vb18, kb18⟩ := rr_57 oR mb15 kb15 (Rg_in ry17 (by decide))
      replace hv := fnR hv vb18
      refine ld_57 hx hb hH mb15 kb15 (Rg_in ry17 (by decide)) vb18 dX9_weigh_29 ?_
      refine lv_astore_n (lv' := [(2, .ref b18), (0, .ref a0), (1, .int x1_2)]) hx hb dX9_weigh_30 rfl hl (by decide) rfl (fun ls hl => ?_)
      refine lv_aload_n hx hb dX9_weigh_31 rfl (lv_at hl 1 rfl) ?_
      refine gf_9_1 vb15 hx hb hts hown hH m0 k0 rfl kf_X9_32 dX9_weigh_32 ?_
      refine lv_bipush (v := 10) hx hb dX9_weigh_35 (by decide) ?_
      refine lv_iload_n hx hb dX9_weigh_37 rfl (lv_at hl 2 rfl) ?_
      refine lv_bipush (v := 10) hx hb dX9_weigh_38 (by decide) ?_
      refine lv_irem hx hb dX9_weigh_40 (by decide) ?_
      refine lv_topi (fun y19 ey19 => ?_)
      replace hv := fnS hv ey19
      obtain ⟨ty19, ry19⟩ := Rg_remx (b' := (9)) (rfl : x1_2.toInt = _) (by decide : Int32.toInt 10 = 10) r10 (Rg_c (x := 10) (a := (10)) (b := (10)) (by decide)) (by decide)
      rw [← ey19] at ty19 ry19
      refine lv_iadd hx hb dX9_weigh_41 ?_
      refine lv_topi (fun y20 ey20 => ?_)
      replace hv := fnS hv ey20
      obtain ⟨ty20, ry20⟩ := Rg_addx (a' := (10)) (b' := (19)) (by decide : Int32.toInt 10 = 10) (rfl : y19.toInt = _) (Rg_c (x := 10) (a := (10)) (b := (10)) (by decide)) ry19 (by decide)
      rw [← ey20] at ty20 ry20
      obtain ⟨b21, mb21, vb21, kb21⟩ := rr_57 oR mb15 kb15 (Rg_in ry20 (by decide))
      replace hv := fnR hv vb21
      refine ld_57 hx hb hH mb15 kb15 (Rg_in ry20 (by decide)) vb21 dX9_weigh_42 ?_
      refine lv_astore_n (lv' := [(3, .ref b21), (2, .ref b18), (0, .ref a0), (1, .int x1_2)]) hx hb dX9_weigh_43 rfl hl (by decide) rfl (fun ls hl => ?_)
      refine lv_iload_n hx hb dX9_weigh_44 rfl (lv_at hl 3 rfl) ?_
      refine lv_bipush (v := 10) hx hb dX9_weigh_45 (by decide) ?_
      refine lv_idiv hx hb dX9_weigh_47 (by decide) ?_
      refine lv_topi (fun y22 ey22 => ?_)
      obtain rfl : y16 = y22 := ey16.trans ey22.symm
      refine lv_iload_n hx hb dX9_weigh_48 rfl (lv_at hl 3 rfl) ?_
      refine lv_bipush (v := 10) hx hb dX9_weigh_49 (by decide) ?_
      refine lv_irem hx hb dX9_weigh_51 (by decide) ?_
      refine lv_topi (fun y23 ey23 => ?_)
      obtain rfl : y19 = y23 := ey19.trans ey23.symm
      refine lv_icmp_ne (tgt := 60) hx hb dX9_weigh_52 (by decide) (fun q24 => ?_) (fun q24 => ?_)
      rotate_left
      · replace hv := fnP hv q24
        refine lv_bipush (v := (-6)) hx hb dX9_weigh_55 (by decide) ?_
        refine lv_goto (tgt := 69) hx hb dX9_weigh_57 (by decide) ?_
        exact L_69 I_2 _ _ _ (-6) hH hv oI sm r10 (lv_sub hl [2, 3] rfl)
      replace hv := fnN hv q24
      refine lv_aload_n hx hb dX9_weigh_60 rfl (lv_at hl 2 rfl) ?_
      obtain ⟨b25, mb25, vb25, kb25⟩ := rf_9_0 oR m0 k0
      replace hv := fnR hv vb25
      refine gf_9_0 vb25 hx hb hts hown hH m0 k0 rfl kf_X9_28 dX9_weigh_61 ?_
      refine lv_aload_n hx hb dX9_weigh_64 rfl (lv_at hl 0 rfl) ?_
      refine lv_aload_n hx hb dX9_weigh_65 rfl (lv_at hl 1 rfl) ?_
      refine ca_X9_57 hx hb hml hown hts hH (c_X3_costOfAll oI oR mb25 kb25 mb21 kb21 mb18 kb18) hl.1 mb25 kb25 rfl (by decide) (Nat.le_of_ble_eq_true rfl) ⟨Nat.zero_le _, Nat.zero_le _⟩ dX9_weigh_66 (fun y26 I26 J26 R26 H locs hp hH => ?_)
      obtain ⟨⟨oI, -, sc26⟩, eJ26, eR26, hf26⟩ := hp
      obtain rfl : J = J26 := eJ26.symm
      obtain rfl : R = R26 := eR26.symm
      replace hv := fnC hv hf26
      have sm : Sm C ms_X9_weigh (I, J, R) (I26, J, R) := sm.tr sc26 rfl
      exact L_69 I26 _ _ _ y26 hH hv oI sm r10 (lv_sub hl [2, 3] rfl)
  exact L_2 ((100 - (0 : Int32).toInt).toNat + 1) I _ _ _ 0 (Nat.lt_succ_self _) hH hv oI sm (Rg_w (Rg_c (x := 0) (a := (0)) (b := (0)) (by decide)) (by decide)) (lv_sub hl [1, 0] rfl)
noncomputable def F_X9_shorten_69 (a0 : Nat) (x1 : Int32) (y2 : Int32) (b1 : Nat) (I_69 : hI) (J : hJ) (R : hR) (xs0_69 : Int32) : Int32 × hU :=
  (xs0_69, (I_69, J, R))
noncomputable def B_X9_shorten_9 (a0 : Nat) (x1 : Int32) (y2 : Int32) (b1 : Nat) (k_9 : hI → hJ → hR → Int32 → (Int32 × hU)) (I_9 : hI) (J : hJ) (R : hR) (x3_9 : Int32) : Int32 × hU :=
  (if (10 : Int32) ≤ x3_9 then nm (I_9 b1 (Int32.toNatClampNeg x1)) fun y5 => (if y2 ≤ y5 then F_X9_shorten_69 a0 x1 y2 b1 I_9 J R (0 : Int32) else F_X9_shorten_69 a0 x1 y2 b1 I_9 J R (1 : Int32)) else nm (I_9 b1 (Int32.toNatClampNeg x1)) fun y10 => nm ((R a0 2).getD 0) fun b11 => nm (x1 * (10 : Int32)) fun y12 => nm (y12 + x3_9) fun y13 => nm (I_9 b11 (Int32.toNatClampNeg y13)) fun y14 => nm (I_9 b1 (Int32.toNatClampNeg x3_9)) fun y15 => nm (y14 + y15) fun y16 => nm (F_J9_min_7cf53 y10 y16) fun y17 => nm (u2 I_9 b1 (Int32.toNatClampNeg x1) y17) fun I18 => nm (x3_9 + (1 : Int32)) fun y19 => k_9 I18 J R y19)
noncomputable def F_X9_shorten_9 (a0 : Nat) (x1 : Int32) (y2 : Int32) (b1 : Nat) : Nat → hI → hJ → hR → Int32 → (Int32 × hU) := fun n => Nat.rec (motive := fun _ => hI → hJ → hR → Int32 → (Int32 × hU)) (fun _ _ _ _ => default) (fun _ k => B_X9_shorten_9 a0 x1 y2 b1 k) n
theorem F_X9_shorten_9_s {a0 : Nat} {x1 : Int32} {y2 : Int32} {b1 : Nat} {n : Nat} {I_9 : hI} {J : hJ} {R : hR} {x3_9 : Int32} : F_X9_shorten_9 a0 x1 y2 b1 (n + 1)  I_9 J R x3_9 = B_X9_shorten_9 a0 x1 y2 b1 (F_X9_shorten_9 a0 x1 y2 b1 n)  I_9 J R x3_9 := rfl
noncomputable def F_X9_shorten (a0 : Nat) (x1 : Int32) (I : hI) (J : hJ) (R : hR) : Int32 × hU :=
  nm ((R a0 3).getD 0) fun b1 => nm (I b1 (Int32.toNatClampNeg x1)) fun y2 => F_X9_shorten_9 a0 x1 y2 b1 ((10 - (0 : Int32).toInt).toNat + 1) I J R (0 : Int32)
def ms_X9_shorten : List Nat := [2944]
set_option maxHeartbeats 4000000 in
set_option maxRecDepth 100000 in
theorem c_X9_shorten {l : Launch} {D : va_G} {cy : Nat → ClassId} {L : List Nat} {C : Nat → Nat} {b0 : Nat} {I : hI} {J : hJ} {R : hR} {a0 : Nat} {x1 : Int32} (oI : OkI L C I) (oR : OkR L C R) (m0 : a0 ∈ L) (k0 : C a0 = 9) (h1 : Rg x1 (0) (9)) : CI l yX9_shorten cX9_shorten 4 .boolean 1 D cy L C b0 [.ref a0, .int x1] (I, J, R) (fun r v => Ps L C ms_X9_shorten (I, J, R) v ∧ v.2.1 = J ∧ v.2.2 = R ∧ Rg r (0) (1) ∧ F_X9_shorten a0 x1 I J R = (r, v)) := by
  refine CI.mkZ (plainFor_of_name (by decide)) (Nat.le_of_ble_eq_true rfl) ?_
  intro p e s m args below meth c ls Q hF ret hH hl
  obtain ⟨hx, hb, -, hml, hown, hts, -⟩ := hF
  have hl : lv_has ls 4 [(0, .ref a0), (1, .int x1)] := hl
  have hH : Hp D cy L C b0 s s.heap I J R s.heap [] := hH
  have sm : Sm C ms_X9_shorten (I, J, R) (I, J, R) := Sm.rf
  obtain ⟨TT0, hT⟩ : ∃ TT0, TT0 = F_X9_shorten a0 x1 I J R := ⟨_, rfl⟩
  have hv := hT
  unfold F_X9_shorten at hv
  refine lv_aload_n hx hb dX9_shorten_0 rfl (lv_at hl 0 rfl) ?_
  obtain ⟨b1, mb1, vb1, kb1⟩ := rf_9_3 oR m0 k0
  replace hv := fnR hv vb1
  refine gf_9_3 vb1 hx hb hts hown hH m0 k0 rfl kf_X9_15 dX9_shorten_1 ?_
  refine lv_iload_n hx hb dX9_shorten_4 rfl (lv_at hl 1 rfl) ?_
  refine ld_46 hx hb hH mb1 kb1 (Rg_in h1 (by decide)) dX9_shorten_5 ?_
  refine lv_topi (fun y2 ey2 => ?_)
  replace hv := fnS hv ey2
  refine lv_istore_n (lv' := [(2, .int y2), (0, .ref a0), (1, .int x1)]) hx hb dX9_shorten_6 rfl hl (by decide) rfl (fun ls hl => ?_)
  refine lv_iconst (v := 0) hx hb dX9_shorten_7 (by decide) ?_
  refine lv_istore_n (lv' := [(3, .int 0), (2, .int y2), (0, .ref a0), (1, .int x1)]) hx hb dX9_shorten_8 rfl hl (by decide) rfl (fun ls hl => ?_)
  have L_69 : ∀ (I_69 : hI) (H : Heap) (locs : List Loc) (ls : Array Slot) (xs0_69 : Int32), Hp D cy L C b0 s s.heap I_69 J R H locs → TT0 = F_X9_shorten_69 a0 x1 y2 b1 I_69 J R xs0_69 → OkI L C I_69 → Sm C ms_X9_shorten (I, J, R) (I_69, J, R) → Rg xs0_69 (0) (1) → lv_has ls 4 [] → W p l e (rmD 1) s m args below meth c H locs 0 0 Q (F0 m 69 ls [.int xs0_69]) := by
    intro I_69 H locs ls xs0_69 hH hv oI sm rs0_69 hl
    unfold F_X9_shorten_69 at hv
    exact ret (xs0_69) _ _ _ _ _ _ _ dX9_shorten_69 hH (Rg_01 (Rg_w rs0_69 (by decide))) ⟨⟨oI, oR, sm⟩, rfl, rfl, rs0_69, (hT.symm.trans hv)⟩
  have L_9 : ∀ (n_9 : Nat) (I_9 : hI) (H : Heap) (locs : List Loc) (ls : Array Slot) (x3_9 : Int32), (10 - x3_9.toInt).toNat < n_9 → Hp D cy L C b0 s s.heap I_9 J R H locs → TT0 = F_X9_shorten_9 a0 x1 y2 b1 n_9 I_9 J R x3_9 → OkI L C I_9 → Sm C ms_X9_shorten (I, J, R) (I_9, J, R) → Rg x1 (0) (9) → Rg x3_9 (0) (10) → lv_has ls 4 [(0, .ref a0), (1, .int x1), (2, .int y2), (3, .int x3_9)] → W p l e (rmD 1) s m args below meth c H locs 0 0 Q (F0 m 9 ls []) := by
    intro n_9
    induction n_9 with
    | zero => intro I_9 H locs ls x3_9 h; exact absurd h (Nat.not_lt_zero _)
    | succ n_9 ih_9 =>
      intro I_9 H locs ls x3_9 hn_9 hH hv oI sm r1_9 r3_9 hl
      replace hv := hv.trans F_X9_shorten_9_s
      unfold B_X9_shorten_9 at hv
      refine lv_iload_n hx hb dX9_shorten_9 rfl (lv_at hl 3 rfl) ?_
      refine lv_bipush (v := 10) hx hb dX9_shorten_10 (by decide) ?_
      refine lv_icmp_ge (tgt := 54) hx hb dX9_shorten_12 (by decide) (fun q3 => ?_) (fun q3 => ?_)
      · replace hv := fnP hv q3
        have r4 : Rg x3_9 (10) (10) := Rg_lle r3_9 (Rg_le q3) (Rg_c (x := 10) (a := (10)) (b := (10)) (by decide)) (by decide)
        refine lv_aload_n hx hb dX9_shorten_54 rfl (lv_at hl 0 rfl) ?_
        refine gf_9_3 vb1 hx hb hts hown hH m0 k0 rfl kf_X9_15 dX9_shorten_55 ?_
        refine lv_iload_n hx hb dX9_shorten_58 rfl (lv_at hl 1 rfl) ?_
        refine ld_46 hx hb hH mb1 kb1 (Rg_in r1_9 (by decide)) dX9_shorten_59 ?_
        refine lv_topi (fun y5 ey5 => ?_)
        replace hv := fnS hv ey5
        refine lv_iload_n hx hb dX9_shorten_60 rfl (lv_at hl 2 rfl) ?_
        refine lv_icmp_ge (tgt := 68) hx hb dX9_shorten_61 (by decide) (fun q6 => ?_) (fun q6 => ?_)
        · replace hv := fnP hv q6
          refine lv_iconst (v := 0) hx hb dX9_shorten_68 (by decide) ?_
          exact L_69 I_9 _ _ _ 0 hH hv oI sm (Rg_w (Rg_c (x := 0) (a := (0)) (b := (0)) (by decide)) (by decide)) (lv_sub hl [] rfl)
        replace hv := fnN hv q6
        have r7 : Rg y5 (-2147483648) (2147483646) := Rg_ult (Rg_any y5) (Rg_nle q6) (Rg_any y2) (by decide)
        have r8 : Rg y2 (-2147483647) (2147483647) := Rg_llt (Rg_any y2) (Rg_nle q6) (Rg_any y5) (by decide)
        refine lv_iconst (v := 1) hx hb dX9_shorten_64 (by decide) ?_
        refine lv_goto (tgt := 69) hx hb dX9_shorten_65 (by decide) ?_
        exact L_69 I_9 _ _ _ 1 hH hv oI sm (Rg_w (Rg_c (x := 1) (a := (1)) (b := (1)) (by decide)) (by decide)) (lv_sub hl [] rfl)
      replace hv := fnN hv q3
      have r9 : Rg x3_9 (0) (9) := Rg_ult r3_9 (Rg_nle q3) (Rg_c (x := 10) (a := (10)) (b := (10)) (by decide)) (by decide)
      refine lv_aload_n hx hb dX9_shorten_15 rfl (lv_at hl 0 rfl) ?_
      refine gf_9_3 vb1 hx hb hts hown hH m0 k0 rfl kf_X9_15 dX9_shorten_16 ?_
      refine lv_iload_n hx hb dX9_shorten_19 rfl (lv_at hl 1 rfl) ?_
      refine lv_aload_n hx hb dX9_shorten_20 rfl (lv_at hl 0 rfl) ?_
      refine gf_9_3 vb1 hx hb hts hown hH m0 k0 rfl kf_X9_15 dX9_shorten_21 ?_
      refine lv_iload_n hx hb dX9_shorten_24 rfl (lv_at hl 1 rfl) ?_
      refine ld_46 hx hb hH mb1 kb1 (Rg_in r1_9 (by decide)) dX9_shorten_25 ?_
      refine lv_topi (fun y10 ey10 => ?_)
      replace hv := fnS hv ey10
      refine lv_aload_n hx hb dX9_shorten_26 rfl (lv_at hl 0 rfl) ?_
      obtain ⟨b11, mb11, vb11, kb11⟩ := rf_9_2 oR m0 k0
      replace hv := fnR hv vb11
      refine gf_9_2 vb11 hx hb hts hown hH m0 k0 rfl kf_X9_9 dX9_shorten_27 ?_
      refine lv_iload_n hx hb dX9_shorten_30 rfl (lv_at hl 1 rfl) ?_
      refine lv_bipush (v := 10) hx hb dX9_shorten_31 (by decide) ?_
      refine lv_imul hx hb dX9_shorten_33 ?_
      refine lv_topi (fun y12 ey12 => ?_)
      replace hv := fnS hv ey12
      obtain ⟨ty12, ry12⟩ := Rg_mulx (a' := (0)) (b' := (90)) (rfl : x1.toInt = _) (by decide : Int32.toInt 10 = 10) r1_9 (Rg_c (x := 10) (a := (10)) (b := (10)) (by decide)) (by decide)
      rw [← ey12] at ty12 ry12
      refine lv_iload_n hx hb dX9_shorten_34 rfl (lv_at hl 3 rfl) ?_
      refine lv_iadd hx hb dX9_shorten_35 ?_
      refine lv_topi (fun y13 ey13 => ?_)
      replace hv := fnS hv ey13
      obtain ⟨ty13, ry13⟩ := Rg_addx (a' := (0)) (b' := (99)) (rfl : y12.toInt = _) (rfl : x3_9.toInt = _) ry12 r9 (by decide)
      rw [← ey13] at ty13 ry13
      refine ld_45 hx hb hH mb11 kb11 (Rg_in ry13 (by decide)) dX9_shorten_36 ?_
      refine lv_topi (fun y14 ey14 => ?_)
      replace hv := fnS hv ey14
      refine lv_aload_n hx hb dX9_shorten_37 rfl (lv_at hl 0 rfl) ?_
      refine gf_9_3 vb1 hx hb hts hown hH m0 k0 rfl kf_X9_15 dX9_shorten_38 ?_
      refine lv_iload_n hx hb dX9_shorten_41 rfl (lv_at hl 3 rfl) ?_
      refine ld_46 hx hb hH mb1 kb1 (Rg_in r9 (by decide)) dX9_shorten_42 ?_
      refine lv_topi (fun y15 ey15 => ?_)
      replace hv := fnS hv ey15
      refine lv_iadd hx hb dX9_shorten_43 ?_
      refine lv_topi (fun y16 ey16 => ?_)
      replace hv := fnS hv ey16
      refine ca_X9_67 hx hb hml hown hts hH (c_J9_min_7cf53 ) hl.1 (by decide) (Nat.le_of_ble_eq_true rfl) ⟨Nat.zero_le _, Nat.zero_le _⟩ dX9_shorten_44 (fun y17 I17 J17 R17 H locs hp hH => ?_)
      obtain ⟨eI17, eJ17, eR17, hf17⟩ := hp
      obtain rfl : I_9 = I17 := eI17.symm
      obtain rfl : J = J17 := eJ17.symm
      obtain rfl : R = R17 := eR17.symm
      replace hv := fnS hv hf17.symm
      refine st_46 hx hb hH mb1 kb1 (Rg_in r1_9 (by decide)) dX9_shorten_47 (fun I18 H locs eI18 hH => ?_)
      replace hv := fnS hv eI18
      have oI : OkI L C I18 := by rw [eI18]; exact wr_46 oI kb1 (Rg_any y17)
      have sm : Sm C ms_X9_shorten (I, J, R) (I18, J, R) := by rw [eI18]; exact sm.stI kb1 (mC_arr (by decide) rfl)
      obtain ⟨y19, ey19⟩ : ∃ y : Int32, y = x3_9 + 1 := ⟨_, rfl⟩
      replace hv := fnS hv ey19
      obtain ⟨ty19, ry19⟩ := Rg_addx (a' := (1)) (b' := (10)) (rfl : x3_9.toInt = _) (by decide : Int32.toInt 1 = 1) r9 (Rg_c (x := 1) (a := (1)) (b := (1)) (by decide)) (by decide)
      rw [← ey19] at ty19 ry19
      refine lv_iinc (v := y19) (lv' := [(3, .int y19), (0, .ref a0), (1, .int x1), (2, .int y2)]) hx hb dX9_shorten_48 hl (k := 3) rfl (by rw [ey19]; rfl) (by decide) rfl (fun ls hl => ?_)
      refine lv_goto (tgt := 9) hx hb dX9_shorten_51 (by decide) ?_
      exact ih_9 I18 _ _ _ y19 (lp_up hn_9 ty19 (Rg_ltc r9 (by decide))) hH hv oI sm r1_9 (Rg_w ry19 (by decide)) (lv_sub hl [1, 2, 3, 0] rfl)
  exact L_9 ((10 - (0 : Int32).toInt).toNat + 1) I _ _ _ 0 (Nat.lt_succ_self _) hH hv oI sm h1 (Rg_w (Rg_c (x := 0) (a := (0)) (b := (0)) (by decide)) (by decide)) (lv_sub hl [2, 3, 1, 0] rfl)
noncomputable def F_X9_measure_73 (a0 : Nat) (x1 : Int32) (b1 : Nat) (I_73 : hI) (J : hJ) (R : hR) : hU :=
  (I_73, J, R)
noncomputable def F_X9_measure_60 (a0 : Nat) (x1 : Int32) (b1 : Nat) (x2_20 : Int32) (x3_20 : Int32) (x2_35 : Int32) (x4_35 : Int32) (k_20 : hI → hJ → hR → Int32 → Int32 → (hU)) (k_35 : hI → hJ → hR → Int32 → Int32 → (hU)) (I_60 : hI) (J : hJ) (R : hR) (xs0_60 : Int32) : hU :=
  nm (x4_35 + (1 : Int32)) fun y4 => k_35 I_60 J R xs0_60 y4
noncomputable def F_X9_measure_55 (a0 : Nat) (x1 : Int32) (b1 : Nat) (x2_20 : Int32) (x3_20 : Int32) (x2_35 : Int32) (x4_35 : Int32) (k_20 : hI → hJ → hR → Int32 → Int32 → (hU)) (k_35 : hI → hJ → hR → Int32 → Int32 → (hU)) (I_55 : hI) (J : hJ) (R : hR) : hU :=
  F_X9_measure_60 a0 x1 b1 x2_20 x3_20 x2_35 x4_35 k_20 k_35 I_55 J R (1 : Int32)
noncomputable def B_X9_measure_35 (a0 : Nat) (x1 : Int32) (b1 : Nat) (x2_20 : Int32) (x3_20 : Int32) (k_20 : hI → hJ → hR → Int32 → Int32 → (hU)) (k_35 : hI → hJ → hR → Int32 → Int32 → (hU)) (I_35 : hI) (J : hJ) (R : hR) (x2_35 : Int32) (x4_35 : Int32) : hU :=
  (if (10 : Int32) ≤ x4_35 then nm (x3_20 + (1 : Int32)) fun y7 => k_20 I_35 J R x2_35 y7 else nmU (F_X9_shorten a0 x4_35 I_35 J R) fun y9 I9 _ _ => (if y9 = (0 : Int32) then (if x2_35 = (0 : Int32) then F_X9_measure_60 a0 x1 b1 x2_20 x3_20 x2_35 x4_35 k_20 k_35 I9 J R (0 : Int32) else F_X9_measure_55 a0 x1 b1 x2_20 x3_20 x2_35 x4_35 k_20 k_35 I9 J R) else F_X9_measure_55 a0 x1 b1 x2_20 x3_20 x2_35 x4_35 k_20 k_35 I9 J R))
noncomputable def F_X9_measure_35 (a0 : Nat) (x1 : Int32) (b1 : Nat) (x2_20 : Int32) (x3_20 : Int32) (k_20 : hI → hJ → hR → Int32 → Int32 → (hU)) : Nat → hI → hJ → hR → Int32 → Int32 → (hU) := fun n => Nat.rec (motive := fun _ => hI → hJ → hR → Int32 → Int32 → (hU)) (fun _ _ _ _ _ => default) (fun _ k => B_X9_measure_35 a0 x1 b1 x2_20 x3_20 k_20 k) n
theorem F_X9_measure_35_s {a0 : Nat} {x1 : Int32} {b1 : Nat} {x2_20 : Int32} {x3_20 : Int32} {k_20 : hI → hJ → hR → Int32 → Int32 → (hU)} {n : Nat} {I_35 : hI} {J : hJ} {R : hR} {x2_35 : Int32} {x4_35 : Int32} : F_X9_measure_35 a0 x1 b1 x2_20 x3_20 k_20 (n + 1)  I_35 J R x2_35 x4_35 = B_X9_measure_35 a0 x1 b1 x2_20 x3_20 k_20 (F_X9_measure_35 a0 x1 b1 x2_20 x3_20 k_20 n)  I_35 J R x2_35 x4_35 := rfl
noncomputable def B_X9_measure_20 (a0 : Nat) (x1 : Int32) (b1 : Nat) (k_20 : hI → hJ → hR → Int32 → Int32 → (hU)) (I_20 : hI) (J : hJ) (R : hR) (x2_20 : Int32) (x3_20 : Int32) : hU :=
  (if (10 : Int32) ≤ x3_20 then F_X9_measure_73 a0 x1 b1 I_20 J R else (if x2_20 = (0 : Int32) then F_X9_measure_73 a0 x1 b1 I_20 J R else F_X9_measure_35 a0 x1 b1 x2_20 x3_20 k_20 ((10 - (0 : Int32).toInt).toNat + 1) I_20 J R (0 : Int32) (0 : Int32)))
noncomputable def F_X9_measure_20 (a0 : Nat) (x1 : Int32) (b1 : Nat) : Nat → hI → hJ → hR → Int32 → Int32 → (hU) := fun n => Nat.rec (motive := fun _ => hI → hJ → hR → Int32 → Int32 → (hU)) (fun _ _ _ _ _ => default) (fun _ k => B_X9_measure_20 a0 x1 b1 k) n
theorem F_X9_measure_20_s {a0 : Nat} {x1 : Int32} {b1 : Nat} {n : Nat} {I_20 : hI} {J : hJ} {R : hR} {x2_20 : Int32} {x3_20 : Int32} : F_X9_measure_20 a0 x1 b1 (n + 1)  I_20 J R x2_20 x3_20 = B_X9_measure_20 a0 x1 b1 (F_X9_measure_20 a0 x1 b1 n)  I_20 J R x2_20 x3_20 := rfl
noncomputable def F_X9_measure (a0 : Nat) (x1 : Int32) (I : hI) (J : hJ) (R : hR) : hU :=
  nm ((R a0 3).getD 0) fun b1 => nmW (F_J7_fill_46 b1 (268435456 : Int32) I J R) fun I2 _ _ => nm (u2 I2 b1 (Int32.toNatClampNeg x1) (0 : Int32)) fun I3 => F_X9_measure_20 a0 x1 b1 ((10 - (0 : Int32).toInt).toNat + 1) I3 J R (1 : Int32) (0 : Int32)
def ms_X9_measure : List Nat := [2944]
set_option maxHeartbeats 4000000 in
set_option maxRecDepth 100000 in
theorem c_X9_measure {l : Launch} {D : va_G} {cy : Nat → ClassId} {L : List Nat} {C : Nat → Nat} {b0 : Nat} {I : hI} {J : hJ} {R : hR} {a0 : Nat} {x1 : Int32} (oI : OkI L C I) (oR : OkR L C R) (m0 : a0 ∈ L) (k0 : C a0 = 9) (h1 : Rg x1 (0) (9)) : CV l yX9_measure cX9_measure 5 2 D cy L C b0 [.ref a0, .int x1] (I, J, R) (fun v => Ps L C ms_X9_measure (I, J, R) v ∧ v.2.1 = J ∧ v.2.2 = R ∧ F_X9_measure a0 x1 I J R = v) := by
  refine CV.mk (plainFor_of_name (by decide)) (Nat.le_of_ble_eq_true rfl) ?_
  intro p e s m args below meth c ls Q hF ret hH hl
  obtain ⟨hx, hb, -, hml, hown, hts, -⟩ := hF
  have hl : lv_has ls 5 [(0, .ref a0), (1, .int x1)] := hl
  have hH : Hp D cy L C b0 s s.heap I J R s.heap [] := hH
  have sm : Sm C ms_X9_measure (I, J, R) (I, J, R) := Sm.rf
  obtain ⟨TT0, hT⟩ : ∃ TT0, TT0 = F_X9_measure a0 x1 I J R := ⟨_, rfl⟩
  have hv := hT
  unfold F_X9_measure at hv
  refine lv_aload_n hx hb dX9_measure_0 rfl (lv_at hl 0 rfl) ?_
  obtain ⟨b1, mb1, vb1, kb1⟩ := rf_9_3 oR m0 k0
  replace hv := fnR hv vb1
  refine gf_9_3 vb1 hx hb hts hown hH m0 k0 rfl kf_X9_15 dX9_measure_1 ?_
  refine lv_ldc (v := 268435456) hx hb hown (hts _ kk_X9_52) dX9_measure_4 ?_
  refine ca_X9_39 hx hb hml hown hts hH (c_J7_fill_46 oI oR mb1 kb1) hl.1 (by decide) (Nat.le_of_ble_eq_true rfl) ⟨Nat.zero_le _, Nat.zero_le _⟩ dX9_measure_6 (fun I2 J2 R2 H locs hp hH => ?_)
  obtain ⟨⟨oI, -, sc2⟩, eJ2, eR2, hf2⟩ := hp
  obtain rfl : J = J2 := eJ2.symm
  obtain rfl : R = R2 := eR2.symm
  replace hv := fnW hv hf2
  have sm : Sm C ms_X9_measure (I, J, R) (I2, J, R) := sm.tr sc2 rfl
  refine lv_aload_n hx hb dX9_measure_9 rfl (lv_at hl 0 rfl) ?_
  refine gf_9_3 vb1 hx hb hts hown hH m0 k0 rfl kf_X9_15 dX9_measure_10 ?_
  refine lv_iload_n hx hb dX9_measure_13 rfl (lv_at hl 1 rfl) ?_
  refine lv_iconst (v := 0) hx hb dX9_measure_14 (by decide) ?_
  refine st_46 hx hb hH mb1 kb1 (Rg_in h1 (by decide)) dX9_measure_15 (fun I3 H locs eI3 hH => ?_)
  replace hv := fnS hv eI3
  have oI : OkI L C I3 := by rw [eI3]; exact wr_46 oI kb1 (Rg_w (Rg_c (x := 0) (a := (0)) (b := (0)) (by decide)) (by decide))
  have sm : Sm C ms_X9_measure (I, J, R) (I3, J, R) := by rw [eI3]; exact sm.stI kb1 (mC_arr (by decide) rfl)
  refine lv_iconst (v := 1) hx hb dX9_measure_16 (by decide) ?_
  refine lv_istore_n (lv' := [(2, .int 1), (0, .ref a0), (1, .int x1)]) hx hb dX9_measure_17 rfl hl (by decide) rfl (fun ls hl => ?_)
  refine lv_iconst (v := 0) hx hb dX9_measure_18 (by decide) ?_
  refine lv_istore_n (lv' := [(3, .int 0), (2, .int 1), (0, .ref a0), (1, .int x1)]) hx hb dX9_measure_19 rfl hl (by decide) rfl (fun ls hl => ?_)
  have L_73 : ∀ (I_73 : hI) (H : Heap) (locs : List Loc) (ls : Array Slot), Hp D cy L C b0 s s.heap I_73 J R H locs → TT0 = F_X9_measure_73 a0 x1 b1 I_73 J R → OkI L C I_73 → Sm C ms_X9_measure (I, J, R) (I_73, J, R) → lv_has ls 5 [] → W p l e (rmD 2) s m args below meth c H locs 0 0 Q (F0 m 73 ls []) := by
    intro I_73 H locs ls hH hv oI sm hl
    unfold F_X9_measure_73 at hv
    exact ret _ _ _ _ _ _ _ dX9_measure_73 hH ⟨⟨oI, oR, sm⟩, rfl, rfl, (hT.symm.trans hv)⟩
  have L_20 : ∀ (n_20 : Nat) (I_20 : hI) (H : Heap) (locs : List Loc) (ls : Array Slot) (x2_20 : Int32) (x3_20 : Int32), (10 - x3_20.toInt).toNat < n_20 → Hp D cy L C b0 s s.heap I_20 J R H locs → TT0 = F_X9_measure_20 a0 x1 b1 n_20 I_20 J R x2_20 x3_20 → OkI L C I_20 → Sm C ms_X9_measure (I, J, R) (I_20, J, R) → Rg x2_20 (0) (1) → Rg x3_20 (0) (10) → lv_has ls 5 [(0, .ref a0), (2, .int x2_20), (3, .int x3_20)] → W p l e (rmD 2) s m args below meth c H locs 0 0 Q (F0 m 20 ls []) := by
    intro n_20
    induction n_20 with
    | zero => intro I_20 H locs ls x2_20 x3_20 h; exact absurd h (Nat.not_lt_zero _)
    | succ n_20 ih_20 =>
      intro I_20 H locs ls x2_20 x3_20 hn_20 hH hv oI sm r2_20 r3_20 hl
      replace hv := hv.trans F_X9_measure_20_s
      unfold B_X9_measure_20 at hv
      have L_35 : ∀ (n_35 : Nat) (I_35 : hI) (H : Heap) (locs : List Loc) (ls : Array Slot) (x2_35 : Int32) (x4_35 : Int32), (10 - x4_35.toInt).toNat < n_35 → Hp D cy L C b0 s s.heap I_35 J R H locs → TT0 = F_X9_measure_35 a0 x1 b1 x2_20 x3_20 (F_X9_measure_20 a0 x1 b1 n_20) n_35 I_35 J R x2_35 x4_35 → OkI L C I_35 → Sm C ms_X9_measure (I, J, R) (I_35, J, R) → Rg x2_35 (0) (1) → Rg x3_20 (0) (9) → Rg x4_35 (0) (10) → lv_has ls 5 [(0, .ref a0), (2, .int x2_35), (3, .int x3_20), (4, .int x4_35)] → W p l e (rmD 2) s m args below meth c H locs 0 0 Q (F0 m 35 ls []) := by
        intro n_35
        induction n_35 with
        | zero => intro I_35 H locs ls x2_35 x4_35 h; exact absurd h (Nat.not_lt_zero _)
        | succ n_35 ih_35 =>
          intro I_35 H locs ls x2_35 x4_35 hn_35 hH hv oI sm r2_35 r3_35 r4_35 hl
          replace hv := hv.trans F_X9_measure_35_s
          unfold B_X9_measure_35 at hv
          have L_60 : ∀ (I_60 : hI) (H : Heap) (locs : List Loc) (ls : Array Slot) (xs0_60 : Int32), Hp D cy L C b0 s s.heap I_60 J R H locs → TT0 = F_X9_measure_60 a0 x1 b1 x2_20 x3_20 x2_35 x4_35 (F_X9_measure_20 a0 x1 b1 n_20) (F_X9_measure_35 a0 x1 b1 x2_20 x3_20 (F_X9_measure_20 a0 x1 b1 n_20) n_35) I_60 J R xs0_60 → OkI L C I_60 → Sm C ms_X9_measure (I, J, R) (I_60, J, R) → Rg xs0_60 (0) (1) → Rg x3_20 (0) (9) → Rg x4_35 (0) (9) → lv_has ls 5 [(0, .ref a0), (3, .int x3_20), (4, .int x4_35)] → W p l e (rmD 2) s m args below meth c H locs 0 0 Q (F0 m 60 ls [.int xs0_60]) := by
            intro I_60 H locs ls xs0_60 hH hv oI sm rs0_60 r3_60 r4_60 hl
            unfold F_X9_measure_60 at hv
            refine lv_istore_n (lv' := [(2, .int xs0_60), (0, .ref a0), (3, .int x3_20), (4, .int x4_35)]) hx hb dX9_measure_60 rfl hl (by decide) rfl (fun ls hl => ?_)
            obtain ⟨y4, ey4⟩ : ∃ y : Int32, y = x4_35 + 1 := ⟨_, rfl⟩
            replace hv := fnS hv ey4
            obtain ⟨ty4, ry4⟩ := Rg_addx (a' := (1)) (b' := (10)) (rfl : x4_35.toInt = _) (by decide : Int32.toInt 1 = 1) r4_60 (Rg_c (x := 1) (a := (1)) (b := (1)) (by decide)) (by decide)
            rw [← ey4] at ty4 ry4
            refine lv_iinc (v := y4) (lv' := [(4, .int y4), (2, .int xs0_60), (0, .ref a0), (3, .int x3_20)]) hx hb dX9_measure_61 hl (k := 3) rfl (by rw [ey4]; rfl) (by decide) rfl (fun ls hl => ?_)
            refine lv_goto (tgt := 35) hx hb dX9_measure_64 (by decide) ?_
            exact ih_35 I_60 _ _ _ xs0_60 y4 (lp_up hn_35 ty4 (Rg_ltc r4_60 (by decide))) hH hv oI sm rs0_60 r3_60 (Rg_w ry4 (by decide)) (lv_sub hl [2, 1, 3, 0] rfl)
          have L_55 : ∀ (I_55 : hI) (H : Heap) (locs : List Loc) (ls : Array Slot), Hp D cy L C b0 s s.heap I_55 J R H locs → TT0 = F_X9_measure_55 a0 x1 b1 x2_20 x3_20 x2_35 x4_35 (F_X9_measure_20 a0 x1 b1 n_20) (F_X9_measure_35 a0 x1 b1 x2_20 x3_20 (F_X9_measure_20 a0 x1 b1 n_20) n_35) I_55 J R → OkI L C I_55 → Sm C ms_X9_measure (I, J, R) (I_55, J, R) → Rg x3_20 (0) (9) → Rg x4_35 (0) (9) → lv_has ls 5 [(0, .ref a0), (3, .int x3_20), (4, .int x4_35)] → W p l e (rmD 2) s m args below meth c H locs 0 0 Q (F0 m 55 ls []) := by
            intro I_55 H locs ls hH hv oI sm r3_55 r4_55 hl
            unfold F_X9_measure_55 at hv
            refine lv_iconst (v := 1) hx hb dX9_measure_55 (by decide) ?_
            refine lv_goto (tgt := 60) hx hb dX9_measure_56 (by decide) ?_
            exact L_60 I_55 _ _ _ 1 hH hv oI sm (Rg_w (Rg_c (x := 1) (a := (1)) (b := (1)) (by decide)) (by decide)) r3_55 r4_55 (lv_sub hl [0, 1, 2] rfl)
          refine lv_iload hx hb dX9_measure_35 (lv_at hl 3 rfl) ?_
          refine lv_bipush (v := 10) hx hb dX9_measure_37 (by decide) ?_
          refine lv_icmp_ge (tgt := 67) hx hb dX9_measure_39 (by decide) (fun q5 => ?_) (fun q5 => ?_)
          · replace hv := fnP hv q5
            have r6 : Rg x4_35 (10) (10) := Rg_lle r4_35 (Rg_le q5) (Rg_c (x := 10) (a := (10)) (b := (10)) (by decide)) (by decide)
            obtain ⟨y7, ey7⟩ : ∃ y : Int32, y = x3_20 + 1 := ⟨_, rfl⟩
            replace hv := fnS hv ey7
            obtain ⟨ty7, ry7⟩ := Rg_addx (a' := (1)) (b' := (10)) (rfl : x3_20.toInt = _) (by decide : Int32.toInt 1 = 1) r3_35 (Rg_c (x := 1) (a := (1)) (b := (1)) (by decide)) (by decide)
            rw [← ey7] at ty7 ry7
            refine lv_iinc (v := y7) (lv' := [(3, .int y7), (0, .ref a0), (2, .int x2_35), (4, .int x4_35)]) hx hb dX9_measure_67 hl (k := 2) rfl (by rw [ey7]; rfl) (by decide) rfl (fun ls hl => ?_)
            refine lv_goto (tgt := 20) hx hb dX9_measure_70 (by decide) ?_
            exact ih_20 I_35 _ _ _ x2_35 y7 (lp_up hn_20 ty7 (Rg_ltc r3_35 (by decide))) hH hv oI sm r2_35 (Rg_w ry7 (by decide)) (lv_sub hl [1, 2, 0] rfl)
          replace hv := fnN hv q5
          have r8 : Rg x4_35 (0) (9) := Rg_ult r4_35 (Rg_nle q5) (Rg_c (x := 10) (a := (10)) (b := (10)) (by decide)) (by decide)
          refine lv_aload_n hx hb dX9_measure_42 rfl (lv_at hl 0 rfl) ?_
          refine lv_iload hx hb dX9_measure_43 (lv_at hl 3 rfl) ?_
          refine ca_X9_63 hx hb hml hown hts hH (c_X9_shorten oI oR m0 k0 r8) hl.1 m0 k0 rfl (by decide) (Nat.le_of_ble_eq_true rfl) ⟨Nat.zero_le _, Nat.zero_le _⟩ dX9_measure_45 (fun y9 I9 J9 R9 H locs hp hH => ?_)
          obtain ⟨⟨oI, -, sc9⟩, eJ9, eR9, ry9, hf9⟩ := hp
          obtain rfl : J = J9 := eJ9.symm
          obtain rfl : R = R9 := eR9.symm
          replace hv := fnC hv hf9
          have sm : Sm C ms_X9_measure (I, J, R) (I9, J, R) := sm.tr sc9 rfl
          refine lv_if_ne (tgt := 55) hx hb dX9_measure_48 (by decide) (fun q10 => ?_) (fun q10 => ?_)
          · replace hv := fnN hv q10
            have r11 : Rg y9 (1) (1) := Rg_nelo ry9 (Rg_ne q10) (Rg_c (x := 0) (a := (0)) (b := (0)) (by decide)) (by decide)
            exact L_55 I9 _ _ _ hH hv oI sm r3_35 r8 (lv_sub hl [0, 2, 3] rfl)
          replace hv := fnP hv q10
          have r12 : Rg y9 (0) (0) := Rg_both ry9 (Rg_eqv q10 (Rg_c (x := 0) (a := (0)) (b := (0)) (by decide))) (by decide)
          refine lv_iload_n hx hb dX9_measure_51 rfl (lv_at hl 1 rfl) ?_
          refine lv_if_eq (tgt := 59) hx hb dX9_measure_52 (by decide) (fun q13 => ?_) (fun q13 => ?_)
          rotate_left
          · replace hv := fnN hv q13
            have r15 : Rg x2_35 (1) (1) := Rg_nelo r2_35 (Rg_ne q13) (Rg_c (x := 0) (a := (0)) (b := (0)) (by decide)) (by decide)
            exact L_55 I9 _ _ _ hH hv oI sm r3_35 r8 (lv_sub hl [0, 2, 3] rfl)
          replace hv := fnP hv q13
          have r14 : Rg x2_35 (0) (0) := Rg_both r2_35 (Rg_eqv q13 (Rg_c (x := 0) (a := (0)) (b := (0)) (by decide))) (by decide)
          refine lv_iconst (v := 0) hx hb dX9_measure_59 (by decide) ?_
          exact L_60 I9 _ _ _ 0 hH hv oI sm (Rg_w (Rg_c (x := 0) (a := (0)) (b := (0)) (by decide)) (by decide)) r3_35 r8 (lv_sub hl [0, 2, 3] rfl)
      refine lv_iload_n hx hb dX9_measure_20 rfl (lv_at hl 2 rfl) ?_
      refine lv_bipush (v := 10) hx hb dX9_measure_21 (by decide) ?_
      refine lv_icmp_ge (tgt := 73) hx hb dX9_measure_23 (by decide) (fun q16 => ?_) (fun q16 => ?_)
      · replace hv := fnP hv q16
        have r17 : Rg x3_20 (10) (10) := Rg_lle r3_20 (Rg_le q16) (Rg_c (x := 10) (a := (10)) (b := (10)) (by decide)) (by decide)
        exact L_73 I_20 _ _ _ hH hv oI sm (lv_sub hl [] rfl)
      replace hv := fnN hv q16
      have r18 : Rg x3_20 (0) (9) := Rg_ult r3_20 (Rg_nle q16) (Rg_c (x := 10) (a := (10)) (b := (10)) (by decide)) (by decide)
      refine lv_iload_n hx hb dX9_measure_26 rfl (lv_at hl 1 rfl) ?_
      refine lv_if_eq (tgt := 73) hx hb dX9_measure_27 (by decide) (fun q19 => ?_) (fun q19 => ?_)
      · replace hv := fnP hv q19
        have r20 : Rg x2_20 (0) (0) := Rg_both r2_20 (Rg_eqv q19 (Rg_c (x := 0) (a := (0)) (b := (0)) (by decide))) (by decide)
        exact L_73 I_20 _ _ _ hH hv oI sm (lv_sub hl [] rfl)
      replace hv := fnN hv q19
      have r21 : Rg x2_20 (1) (1) := Rg_nelo r2_20 (Rg_ne q19) (Rg_c (x := 0) (a := (0)) (b := (0)) (by decide)) (by decide)
      refine lv_iconst (v := 0) hx hb dX9_measure_30 (by decide) ?_
      refine lv_istore_n (lv' := [(2, .int 0), (0, .ref a0), (3, .int x3_20)]) hx hb dX9_measure_31 rfl hl (by decide) rfl (fun ls hl => ?_)
      refine lv_iconst (v := 0) hx hb dX9_measure_32 (by decide) ?_
      refine lv_istore (lv' := [(4, .int 0), (2, .int 0), (0, .ref a0), (3, .int x3_20)]) hx hb dX9_measure_33 hl (by decide) rfl (fun ls hl => ?_)
      exact L_35 ((10 - (0 : Int32).toInt).toNat + 1) I_20 _ _ _ 0 0 (Nat.lt_succ_self _) hH hv oI sm (Rg_w (Rg_c (x := 0) (a := (0)) (b := (0)) (by decide)) (by decide)) r18 (Rg_w (Rg_c (x := 0) (a := (0)) (b := (0)) (by decide)) (by decide)) (lv_sub hl [2, 1, 3, 0] rfl)
  exact L_20 ((10 - (0 : Int32).toInt).toNat + 1) I3 _ _ _ 1 0 (Nat.lt_succ_self _) hH hv oI sm (Rg_w (Rg_c (x := 1) (a := (1)) (b := (1)) (by decide)) (by decide)) (Rg_w (Rg_c (x := 0) (a := (0)) (b := (0)) (by decide)) (by decide)) (lv_sub hl [2, 1, 0] rfl)
noncomputable def B_X9_nextOf_2 (a0 : Nat) (x1 : Int32) (k_2 : hI → hJ → hR → Int32 → (Int32)) (I : hI) (J : hJ) (R : hR) (x2_2 : Int32) : Int32 :=
  (if (10 : Int32) ≤ x2_2 then (-1 : Int32) else nm ((R a0 2).getD 0) fun b4 => nm (x1 * (10 : Int32)) fun y5 => nm (y5 + x2_2) fun y6 => nm (I b4 (Int32.toNatClampNeg y6)) fun y7 => nm ((R a0 3).getD 0) fun b8 => nm (I b8 (Int32.toNatClampNeg x2_2)) fun y9 => nm (y7 + y9) fun y10 => nm (I b8 (Int32.toNatClampNeg x1)) fun y11 => (if y10 = y11 then x2_2 else nm (x2_2 + (1 : Int32)) fun y13 => k_2 I J R y13))
noncomputable def F_X9_nextOf_2 (a0 : Nat) (x1 : Int32) : Nat → hI → hJ → hR → Int32 → (Int32) := fun n => Nat.rec (motive := fun _ => hI → hJ → hR → Int32 → (Int32)) (fun _ _ _ _ => default) (fun _ k => B_X9_nextOf_2 a0 x1 k) n
theorem F_X9_nextOf_2_s {a0 : Nat} {x1 : Int32} {n : Nat} {I : hI} {J : hJ} {R : hR} {x2_2 : Int32} : F_X9_nextOf_2 a0 x1 (n + 1)  I J R x2_2 = B_X9_nextOf_2 a0 x1 (F_X9_nextOf_2 a0 x1 n)  I J R x2_2 := rfl
noncomputable def F_X9_nextOf (a0 : Nat) (x1 : Int32) (I : hI) (J : hJ) (R : hR) : Int32 :=
  F_X9_nextOf_2 a0 x1 ((10 - (0 : Int32).toInt).toNat + 1) I J R (0 : Int32)
set_option maxHeartbeats 4000000 in
set_option maxRecDepth 100000 in
theorem c_X9_nextOf {l : Launch} {D : va_G} {cy : Nat → ClassId} {L : List Nat} {C : Nat → Nat} {b0 : Nat} {I : hI} {J : hJ} {R : hR} {a0 : Nat} {x1 : Int32} (oI : OkI L C I) (oR : OkR L C R) (m0 : a0 ∈ L) (k0 : C a0 = 9) (h1 : Rg x1 (0) (9)) : CI l yX9_nextOf cX9_nextOf 3 .int 0 D cy L C b0 [.ref a0, .int x1] (I, J, R) (fun r v => v.1 = I ∧ v.2.1 = J ∧ v.2.2 = R ∧ Rg r (-1) (9) ∧ F_X9_nextOf a0 x1 I J R = r) := by
  refine CI.mkI (plainFor_of_name (by decide)) (Nat.le_of_ble_eq_true rfl) ?_
  intro p e s m args below meth c ls Q hF ret hH hl
  obtain ⟨hx, hb, -, hml, hown, hts, -⟩ := hF
  have hl : lv_has ls 3 [(0, .ref a0), (1, .int x1)] := hl
  have hH : Hp D cy L C b0 s s.heap I J R s.heap [] := hH
  obtain ⟨TT0, hT⟩ : ∃ TT0, TT0 = F_X9_nextOf a0 x1 I J R := ⟨_, rfl⟩
  have hv := hT
  unfold F_X9_nextOf at hv
  refine lv_iconst (v := 0) hx hb dX9_nextOf_0 (by decide) ?_
  refine lv_istore_n (lv' := [(2, .int 0), (0, .ref a0), (1, .int x1)]) hx hb dX9_nextOf_1 rfl hl (by decide) rfl (fun ls hl => ?_)
  have L_2 : ∀ (n_2 : Nat) (H : Heap) (locs : List Loc) (ls : Array Slot) (x2_2 : Int32), (10 - x2_2.toInt).toNat < n_2 → Hp D cy L C b0 s s.heap I J R H locs → TT0 = F_X9_nextOf_2 a0 x1 n_2 I J R x2_2 → Rg x1 (0) (9) → Rg x2_2 (0) (10) → lv_has ls 3 [(0, .ref a0), (1, .int x1), (2, .int x2_2)] → W p l e (rmD 0) s m args below meth c H locs 0 0 Q (F0 m 2 ls []) := by
    intro n_2
    induction n_2 with
    | zero => intro H locs ls x2_2 h; exact absurd h (Nat.not_lt_zero _)
    | succ n_2 ih_2 =>
      intro H locs ls x2_2 hn_2 hH hv r1_2 r2_2 hl
      replace hv := hv.trans F_X9_nextOf_2_s
      unfold B_X9_nextOf_2 at hv
      refine lv_iload_n hx hb dX9_nextOf_2 rfl (lv_at hl 2 rfl) ?_
      refine lv_bipush (v := 10) hx hb dX9_nextOf_3 (by decide) ?_
      refine lv_icmp_ge (tgt := 43) hx hb dX9_nextOf_5 (by decide) (fun q1 => ?_) (fun q1 => ?_)
      · replace hv := fnP hv q1
        have r2 : Rg x2_2 (10) (10) := Rg_lle r2_2 (Rg_le q1) (Rg_c (x := 10) (a := (10)) (b := (10)) (by decide)) (by decide)
        refine lv_iconst (v := (-1)) hx hb dX9_nextOf_43 (by decide) ?_
        exact ret ((-1)) _ _ _ _ _ _ _ dX9_nextOf_44 hH ⟨rfl, rfl, rfl, (Rg_w (Rg_c (x := (-1)) (a := (-1)) (b := (-1)) (by decide)) (by decide)), (hT.symm.trans hv)⟩
      replace hv := fnN hv q1
      have r3 : Rg x2_2 (0) (9) := Rg_ult r2_2 (Rg_nle q1) (Rg_c (x := 10) (a := (10)) (b := (10)) (by decide)) (by decide)
      refine lv_aload_n hx hb dX9_nextOf_8 rfl (lv_at hl 0 rfl) ?_
      obtain ⟨b4, mb4, vb4, kb4⟩ := rf_9_2 oR m0 k0
      replace hv := fnR hv vb4
      refine gf_9_2 vb4 hx hb hts hown hH m0 k0 rfl kf_X9_9 dX9_nextOf_9 ?_
      refine lv_iload_n hx hb dX9_nextOf_12 rfl (lv_at hl 1 rfl) ?_
      refine lv_bipush (v := 10) hx hb dX9_nextOf_13 (by decide) ?_
      refine lv_imul hx hb dX9_nextOf_15 ?_
      refine lv_topi (fun y5 ey5 => ?_)
      replace hv := fnS hv ey5
      obtain ⟨ty5, ry5⟩ := Rg_mulx (a' := (0)) (b' := (90)) (rfl : x1.toInt = _) (by decide : Int32.toInt 10 = 10) r1_2 (Rg_c (x := 10) (a := (10)) (b := (10)) (by decide)) (by decide)
      rw [← ey5] at ty5 ry5
      refine lv_iload_n hx hb dX9_nextOf_16 rfl (lv_at hl 2 rfl) ?_
      refine lv_iadd hx hb dX9_nextOf_17 ?_
      refine lv_topi (fun y6 ey6 => ?_)
      replace hv := fnS hv ey6
      obtain ⟨ty6, ry6⟩ := Rg_addx (a' := (0)) (b' := (99)) (rfl : y5.toInt = _) (rfl : x2_2.toInt = _) ry5 r3 (by decide)
      rw [← ey6] at ty6 ry6
      refine ld_45 hx hb hH mb4 kb4 (Rg_in ry6 (by decide)) dX9_nextOf_18 ?_
      refine lv_topi (fun y7 ey7 => ?_)
      replace hv := fnS hv ey7
      refine lv_aload_n hx hb dX9_nextOf_19 rfl (lv_at hl 0 rfl) ?_
      obtain ⟨b8, mb8, vb8, kb8⟩ := rf_9_3 oR m0 k0
      replace hv := fnR hv vb8
      refine gf_9_3 vb8 hx hb hts hown hH m0 k0 rfl kf_X9_15 dX9_nextOf_20 ?_
      refine lv_iload_n hx hb dX9_nextOf_23 rfl (lv_at hl 2 rfl) ?_
      refine ld_46 hx hb hH mb8 kb8 (Rg_in r3 (by decide)) dX9_nextOf_24 ?_
      refine lv_topi (fun y9 ey9 => ?_)
      replace hv := fnS hv ey9
      refine lv_iadd hx hb dX9_nextOf_25 ?_
      refine lv_topi (fun y10 ey10 => ?_)
      replace hv := fnS hv ey10
      refine lv_aload_n hx hb dX9_nextOf_26 rfl (lv_at hl 0 rfl) ?_
      refine gf_9_3 vb8 hx hb hts hown hH m0 k0 rfl kf_X9_15 dX9_nextOf_27 ?_
      refine lv_iload_n hx hb dX9_nextOf_30 rfl (lv_at hl 1 rfl) ?_
      refine ld_46 hx hb hH mb8 kb8 (Rg_in r1_2 (by decide)) dX9_nextOf_31 ?_
      refine lv_topi (fun y11 ey11 => ?_)
      replace hv := fnS hv ey11
      refine lv_icmp_ne (tgt := 37) hx hb dX9_nextOf_32 (by decide) (fun q12 => ?_) (fun q12 => ?_)
      rotate_left
      · replace hv := fnP hv q12
        refine lv_iload_n hx hb dX9_nextOf_35 rfl (lv_at hl 2 rfl) ?_
        exact ret (x2_2) _ _ _ _ _ _ _ dX9_nextOf_36 hH ⟨rfl, rfl, rfl, (Rg_w r3 (by decide)), (hT.symm.trans hv)⟩
      replace hv := fnN hv q12
      obtain ⟨y13, ey13⟩ : ∃ y : Int32, y = x2_2 + 1 := ⟨_, rfl⟩
      replace hv := fnS hv ey13
      obtain ⟨ty13, ry13⟩ := Rg_addx (a' := (1)) (b' := (10)) (rfl : x2_2.toInt = _) (by decide : Int32.toInt 1 = 1) r3 (Rg_c (x := 1) (a := (1)) (b := (1)) (by decide)) (by decide)
      rw [← ey13] at ty13 ry13
      refine lv_iinc (v := y13) (lv' := [(2, .int y13), (0, .ref a0), (1, .int x1)]) hx hb dX9_nextOf_37 hl (k := 2) rfl (by rw [ey13]; rfl) (by decide) rfl (fun ls hl => ?_)
      refine lv_goto (tgt := 2) hx hb dX9_nextOf_40 (by decide) ?_
      exact ih_2 _ _ _ y13 (lp_up hn_2 ty13 (Rg_ltc r3 (by decide))) hH hv r1_2 (Rg_w ry13 (by decide)) (lv_sub hl [1, 2, 0] rfl)
  exact L_2 ((10 - (0 : Int32).toInt).toNat + 1) _ _ _ 0 (Nat.lt_succ_self _) hH hv h1 (Rg_w (Rg_c (x := 0) (a := (0)) (b := (0)) (by decide)) (by decide)) (lv_sub hl [1, 2, 0] rfl)
noncomputable def B_X9_find_45 (a0 : Nat) (x1 : Int32) (x2 : Int32) (y6 : Int32) (b5 : Nat) (k_45 : hI → hJ → hR → Int32 → Int32 → (Int32 × hU)) (I_45 : hI) (J : hJ) (R : hR) (x3_45 : Int32) (x4_45 : Int32) : Int32 × hU :=
  nm (I_45 a0 5) fun zm5_45 => (if (10 : Int32) ≤ x4_45 then ((1 : Int32), (I_45, J, R)) else (if x3_45 = (-1 : Int32) then ((1 : Int32), (I_45, J, R)) else nm ((R a0 6).getD 0) fun b17 => nm (u2 I_45 b17 (Int32.toNatClampNeg x4_45) x3_45) fun I18 => nm (zm5_45 + (1 : Int32)) fun y23 => nm (u2 I18 a0 5 y23) fun I24 => (if x3_45 = x2 then nm (x4_45 + (1 : Int32)) fun y31 => k_45 I24 J R (-1 : Int32) y31 else nm (F_X9_nextOf a0 x3_45 I24 J R) fun y28 => nm (x4_45 + (1 : Int32)) fun y29 => k_45 I24 J R y28 y29)))
noncomputable def F_X9_find_45 (a0 : Nat) (x1 : Int32) (x2 : Int32) (y6 : Int32) (b5 : Nat) : Nat → hI → hJ → hR → Int32 → Int32 → (Int32 × hU) := fun n => Nat.rec (motive := fun _ => hI → hJ → hR → Int32 → Int32 → (Int32 × hU)) (fun _ _ _ _ _ => default) (fun _ k => B_X9_find_45 a0 x1 x2 y6 b5 k) n
theorem F_X9_find_45_s {a0 : Nat} {x1 : Int32} {x2 : Int32} {y6 : Int32} {b5 : Nat} {n : Nat} {I_45 : hI} {J : hJ} {R : hR} {x3_45 : Int32} {x4_45 : Int32} : F_X9_find_45 a0 x1 x2 y6 b5 (n + 1)  I_45 J R x3_45 x4_45 = B_X9_find_45 a0 x1 x2 y6 b5 (F_X9_find_45 a0 x1 x2 y6 b5 n)  I_45 J R x3_45 x4_45 := rfl
noncomputable def F_X9_find (a0 : Nat) (x1 : Int32) (x2 : Int32) (I : hI) (J : hJ) (R : hR) : Int32 × hU :=
  nmW (F_X9_weigh a0 I J R) fun I1 _ _ => nmW (F_X9_measure a0 x2 I1 J R) fun I2 _ _ => nm (u2 I2 a0 5 (0 : Int32)) fun I3 => nm ((R a0 3).getD 0) fun b5 => nm (I3 b5 (Int32.toNatClampNeg x1)) fun y6 => (if y6 < (268435456 : Int32) then nm (y6 / (16 : Int32)) fun y36 => nm (u2 I3 a0 4 y36) fun I37 => F_X9_find_45 a0 x1 x2 y6 b5 ((10 - (0 : Int32).toInt).toNat + 1) I37 J R x1 (0 : Int32) else ((0 : Int32), (I3, J, R)))
def ms_X9_find : List Nat := [196, 197, 580, 581, 2752, 2816, 2880, 2944, 3008]
set_option maxHeartbeats 4000000 in
set_option maxRecDepth 100000 in
theorem c_X9_find {l : Launch} {D : va_G} {cy : Nat → ClassId} {L : List Nat} {C : Nat → Nat} {b0 : Nat} {I : hI} {J : hJ} {R : hR} {a0 : Nat} {x1 : Int32} {x2 : Int32} (oI : OkI L C I) (oR : OkR L C R) (m0 : a0 ∈ L) (k0 : C a0 = 9) (h1 : Rg x1 (0) (9)) (h2 : Rg x2 (0) (9)) : CI l yX9_find cX9_find 5 .boolean 14 D cy L C b0 [.ref a0, .int x1, .int x2] (I, J, R) (fun r v => Ps L C ms_X9_find (I, J, R) v ∧ v.2.1 = J ∧ v.2.2 = R ∧ Rg r (0) (1) ∧ F_X9_find a0 x1 x2 I J R = (r, v)) := by
  refine CI.mkZ (plainFor_of_name (by decide)) (Nat.le_of_ble_eq_true rfl) ?_
  intro p e s m args below meth c ls Q hF ret hH hl
  obtain ⟨hx, hb, -, hml, hown, hts, -⟩ := hF
  have hl : lv_has ls 5 [(0, .ref a0), (1, .int x1), (2, .int x2)] := hl
  have hH : Hp D cy L C b0 s s.heap I J R s.heap [] := hH
  have sm : Sm C ms_X9_find (I, J, R) (I, J, R) := Sm.rf
  obtain ⟨TT0, hT⟩ : ∃ TT0, TT0 = F_X9_find a0 x1 x2 I J R := ⟨_, rfl⟩
  have hv := hT
  unfold F_X9_find at hv
  refine lv_aload_n hx hb dX9_find_0 rfl (lv_at hl 0 rfl) ?_
  refine ca_X9_45 hx hb hml hown hts hH (c_X9_weigh oI oR m0 k0) hl.1 m0 k0 rfl (by decide) (Nat.le_of_ble_eq_true rfl) ⟨Nat.zero_le _, Nat.zero_le _⟩ dX9_find_1 (fun I1 J1 R1 H locs hp hH => ?_)
  obtain ⟨⟨oI, -, sc1⟩, eJ1, eR1, hf1⟩ := hp
  obtain rfl : J = J1 := eJ1.symm
  obtain rfl : R = R1 := eR1.symm
  replace hv := fnW hv hf1
  have sm : Sm C ms_X9_find (I, J, R) (I1, J, R) := sm.tr sc1 rfl
  refine lv_aload_n hx hb dX9_find_4 rfl (lv_at hl 0 rfl) ?_
  refine lv_iload_n hx hb dX9_find_5 rfl (lv_at hl 2 rfl) ?_
  refine ca_X9_48 hx hb hml hown hts hH (c_X9_measure oI oR m0 k0 h2) hl.1 m0 k0 rfl (by decide) (Nat.le_of_ble_eq_true rfl) ⟨Nat.zero_le _, Nat.zero_le _⟩ dX9_find_6 (fun I2 J2 R2 H locs hp hH => ?_)
  obtain ⟨⟨oI, -, sc2⟩, eJ2, eR2, hf2⟩ := hp
  obtain rfl : J = J2 := eJ2.symm
  obtain rfl : R = R2 := eR2.symm
  replace hv := fnW hv hf2
  have sm : Sm C ms_X9_find (I, J, R) (I2, J, R) := sm.tr sc2 rfl
  refine lv_aload_n hx hb dX9_find_9 rfl (lv_at hl 0 rfl) ?_
  refine lv_iconst (v := 0) hx hb dX9_find_10 (by decide) ?_
  refine pf_9_5 hx hb hts hown hH m0 k0 rfl kf_X9_22 dX9_find_11 (fun I3 H locs eI3 hH => ?_)
  replace hv := fnS hv eI3
  have oI : OkI L C I3 := by rw [eI3]; exact wf_9_5 oI k0 (Rg_w (Rg_c (x := 0) (a := (0)) (b := (0)) (by decide)) (by decide))
  have sm : Sm C ms_X9_find (I, J, R) (I3, J, R) := by rw [eI3]; exact sm.stI k0 (mC_obj (by decide) rfl)
  have f4 : 0 = I3 a0 5 := by rw [eI3, u2_at]
  refine lv_aload_n hx hb dX9_find_14 rfl (lv_at hl 0 rfl) ?_
  obtain ⟨b5, mb5, vb5, kb5⟩ := rf_9_3 oR m0 k0
  replace hv := fnR hv vb5
  refine gf_9_3 vb5 hx hb hts hown hH m0 k0 rfl kf_X9_15 dX9_find_15 ?_
  refine lv_iload_n hx hb dX9_find_18 rfl (lv_at hl 1 rfl) ?_
  refine ld_46 hx hb hH mb5 kb5 (Rg_in h1 (by decide)) dX9_find_19 ?_
  refine lv_topi (fun y6 ey6 => ?_)
  replace hv := fnS hv ey6
  refine lv_ldc (v := 268435456) hx hb hown (hts _ kk_X9_52) dX9_find_20 ?_
  have L_45 : ∀ (n_45 : Nat) (I_45 : hI) (H : Heap) (locs : List Loc) (ls : Array Slot) (x3_45 : Int32) (x4_45 : Int32), (10 - x4_45.toInt).toNat < n_45 → Hp D cy L C b0 s s.heap I_45 J R H locs → TT0 = F_X9_find_45 a0 x1 x2 y6 b5 n_45 I_45 J R x3_45 x4_45 → OkI L C I_45 → Sm C ms_X9_find (I, J, R) (I_45, J, R) → Rg x2 (0) (9) → Rg x3_45 (-1) (9) → Rg x4_45 (0) (10) → Rg (I_45 a0 5) (0) (10) → ((I_45 a0 5).toInt = Int32.toInt x4_45) → lv_has ls 5 [(0, .ref a0), (2, .int x2), (3, .int x3_45), (4, .int x4_45)] → W p l e (rmD 14) s m args below meth c H locs 0 0 Q (F0 m 45 ls []) := by
    intro n_45
    induction n_45 with
    | zero => intro I_45 H locs ls x3_45 x4_45 h; exact absurd h (Nat.not_lt_zero _)
    | succ n_45 ih_45 =>
      intro I_45 H locs ls x3_45 x4_45 hn_45 hH hv oI sm r2_45 r3_45 r4_45 hm5_45 g0_45 hl
      replace hv := hv.trans F_X9_find_45_s
      unfold B_X9_find_45 at hv
      obtain ⟨zm5_45, em5_45⟩ : ∃ y : Int32, y = I_45 a0 5 := ⟨_, rfl⟩
      have rm5_45 : Rg zm5_45 (0) (10) := by rw [em5_45]; exact hm5_45
      replace hv := fnS hv em5_45
      refine lv_iload hx hb dX9_find_45 (lv_at hl 3 rfl) ?_
      refine lv_bipush (v := 10) hx hb dX9_find_47 (by decide) ?_
      refine lv_icmp_ge (tgt := 96) hx hb dX9_find_49 (by decide) (fun q7 => ?_) (fun q7 => ?_)
      · replace hv := fnP hv q7
        have l8 := Rg_le q7
        have r9 : Rg x4_45 (10) (10) := Rg_lle r4_45 (Rg_le q7) (Rg_c (x := 10) (a := (10)) (b := (10)) (by decide)) (by decide)
        refine lv_iconst (v := 1) hx hb dX9_find_96 (by decide) ?_
        exact ret (1) _ _ _ _ _ _ _ dX9_find_97 hH (Rg_01 (Rg_w (Rg_c (x := 1) (a := (1)) (b := (1)) (by decide)) (by decide))) ⟨⟨oI, oR, sm⟩, rfl, rfl, (Rg_w (Rg_c (x := 1) (a := (1)) (b := (1)) (by decide)) (by decide)), (hT.symm.trans hv)⟩
      replace hv := fnN hv q7
      have l10 := Rg_nle q7
      have r11 : Rg x4_45 (0) (9) := Rg_ult r4_45 (Rg_nle q7) (Rg_c (x := 10) (a := (10)) (b := (10)) (by decide)) (by decide)
      refine lv_iload_n hx hb dX9_find_52 rfl (lv_at hl 2 rfl) ?_
      refine lv_iconst (v := (-1)) hx hb dX9_find_53 (by decide) ?_
      refine lv_icmp_eq (tgt := 96) hx hb dX9_find_54 (by decide) (fun q12 => ?_) (fun q12 => ?_)
      · replace hv := fnP hv q12
        have l13 := congrArg Int32.toInt q12
        have r14 : Rg x3_45 (-1) (-1) := Rg_both r3_45 (Rg_eqv q12 (Rg_c (x := (-1)) (a := (-1)) (b := (-1)) (by decide))) (by decide)
        refine lv_iconst (v := 1) hx hb dX9_find_96 (by decide) ?_
        exact ret (1) _ _ _ _ _ _ _ dX9_find_97 hH (Rg_01 (Rg_w (Rg_c (x := 1) (a := (1)) (b := (1)) (by decide)) (by decide))) ⟨⟨oI, oR, sm⟩, rfl, rfl, (Rg_w (Rg_c (x := 1) (a := (1)) (b := (1)) (by decide)) (by decide)), (hT.symm.trans hv)⟩
      replace hv := fnN hv q12
      have l15 := Rg_ne q12
      have r16 : Rg x3_45 (0) (9) := Rg_nelo r3_45 (Rg_ne q12) (Rg_c (x := (-1)) (a := (-1)) (b := (-1)) (by decide)) (by decide)
      refine lv_aload_n hx hb dX9_find_57 rfl (lv_at hl 0 rfl) ?_
      obtain ⟨b17, mb17, vb17, kb17⟩ := rf_9_6 oR m0 k0
      replace hv := fnR hv vb17
      refine gf_9_6 vb17 hx hb hts hown hH m0 k0 rfl kf_X9_25 dX9_find_58 ?_
      refine lv_iload hx hb dX9_find_61 (lv_at hl 3 rfl) ?_
      refine lv_iload_n hx hb dX9_find_63 rfl (lv_at hl 2 rfl) ?_
      refine st_47 hx hb hH mb17 kb17 (Rg_in r11 (by decide)) dX9_find_64 (fun I18 H locs eI18 hH => ?_)
      replace hv := fnS hv eI18
      have oI : OkI L C I18 := by rw [eI18]; exact wr_47 oI kb17 r16
      have sm : Sm C ms_X9_find (I, J, R) (I18, J, R) := by rw [eI18]; exact sm.stI kb17 (mC_arr (by decide) rfl)
      refine lv_aload_n hx hb dX9_find_65 rfl (lv_at hl 0 rfl) ?_
      refine lv_dup hx hb dX9_find_66 rfl ?_
      have f20 : I18 a0 (5) = I_45 a0 (5) := (by rw [eI18, u2_ne (ne_role k0 kb17 (by decide))])
      have f19 : zm5_45 = I18 a0 (5) := em5_45.trans f20.symm
      refine gf_9_5 hx hb hts hown hH m0 k0 rfl kf_X9_22 dX9_find_67 ?_
      refine lv_topi (fun y21 ey21 => ?_)
      obtain rfl : zm5_45 = y21 := f19.trans ey21.symm
      have r22 : Rg zm5_45 (0) (9) := ⟨rm5_45.1, by have a1 := g0_45; rw [← em5_45] at a1; have a2 := r11.2; omega⟩
      refine lv_iconst (v := 1) hx hb dX9_find_70 (by decide) ?_
      refine lv_iadd hx hb dX9_find_71 ?_
      refine lv_topi (fun y23 ey23 => ?_)
      replace hv := fnS hv ey23
      obtain ⟨ty23, ry23⟩ := Rg_addx (a' := (1)) (b' := (10)) (rfl : zm5_45.toInt = _) (by decide : Int32.toInt 1 = 1) r22 (Rg_c (x := 1) (a := (1)) (b := (1)) (by decide)) (by decide)
      rw [← ey23] at ty23 ry23
      refine pf_9_5 hx hb hts hown hH m0 k0 rfl kf_X9_22 dX9_find_72 (fun I24 H locs eI24 hH => ?_)
      replace hv := fnS hv eI24
      have oI : OkI L C I24 := by rw [eI24]; exact wf_9_5 oI k0 (Rg_w ry23 (by decide))
      have sm : Sm C ms_X9_find (I, J, R) (I24, J, R) := by rw [eI24]; exact sm.stI k0 (mC_obj (by decide) rfl)
      have f25 : y23 = I24 a0 5 := by rw [eI24, u2_at]
      refine lv_iload_n hx hb dX9_find_75 rfl (lv_at hl 2 rfl) ?_
      refine lv_iload_n hx hb dX9_find_76 rfl (lv_at hl 1 rfl) ?_
      refine lv_icmp_ne (tgt := 84) hx hb dX9_find_77 (by decide) (fun q26 => ?_) (fun q26 => ?_)
      rotate_left
      · replace hv := fnP hv q26
        have l30 := congrArg Int32.toInt q26
        refine lv_iconst (v := (-1)) hx hb dX9_find_80 (by decide) ?_
        refine lv_goto (tgt := 89) hx hb dX9_find_81 (by decide) ?_
        refine lv_istore_n (lv' := [(3, .int (-1)), (0, .ref a0), (2, .int x2), (4, .int x4_45)]) hx hb dX9_find_89 rfl hl (by decide) rfl (fun ls hl => ?_)
        obtain ⟨y31, ey31⟩ : ∃ y : Int32, y = x4_45 + 1 := ⟨_, rfl⟩
        replace hv := fnS hv ey31
        obtain ⟨ty31, ry31⟩ := Rg_addx (a' := (1)) (b' := (10)) (rfl : x4_45.toInt = _) (by decide : Int32.toInt 1 = 1) r11 (Rg_c (x := 1) (a := (1)) (b := (1)) (by decide)) (by decide)
        rw [← ey31] at ty31 ry31
        refine lv_iinc (v := y31) (lv' := [(4, .int y31), (3, .int (-1)), (0, .ref a0), (2, .int x2)]) hx hb dX9_find_90 hl (k := 3) rfl (by rw [ey31]; rfl) (by decide) rfl (fun ls hl => ?_)
        refine lv_goto (tgt := 45) hx hb dX9_find_93 (by decide) ?_
        exact ih_45 I24 _ _ _ (-1) y31 (lp_up hn_45 ty31 (Rg_ltc r11 (by decide))) hH hv oI sm r2_45 (Rg_w (Rg_c (x := (-1)) (a := (-1)) (b := (-1)) (by decide)) (by decide)) (Rg_w ry31 (by decide)) (by rw [← f25]; exact Rg_w ry23 (by decide)) (by rw [← f25, ty23, ty31]; have a1 := g0_45; rw [← em5_45] at a1; omega) (lv_sub hl [2, 3, 1, 0] rfl)
      replace hv := fnN hv q26
      have l27 := Rg_ne q26
      refine lv_aload_n hx hb dX9_find_84 rfl (lv_at hl 0 rfl) ?_
      refine lv_iload_n hx hb dX9_find_85 rfl (lv_at hl 2 rfl) ?_
      refine ca_X9_53 hx hb hml hown hts hH (c_X9_nextOf oI oR m0 k0 r16) hl.1 m0 k0 rfl (by decide) (Nat.le_of_ble_eq_true rfl) ⟨Nat.zero_le _, Nat.zero_le _⟩ dX9_find_86 (fun y28 I28 J28 R28 H locs hp hH => ?_)
      obtain ⟨eI28, eJ28, eR28, ry28, hf28⟩ := hp
      obtain rfl : I24 = I28 := eI28.symm
      obtain rfl : J = J28 := eJ28.symm
      obtain rfl : R = R28 := eR28.symm
      replace hv := fnS hv hf28.symm
      refine lv_istore_n (lv' := [(3, .int y28), (0, .ref a0), (2, .int x2), (4, .int x4_45)]) hx hb dX9_find_89 rfl hl (by decide) rfl (fun ls hl => ?_)
      obtain ⟨y29, ey29⟩ : ∃ y : Int32, y = x4_45 + 1 := ⟨_, rfl⟩
      replace hv := fnS hv ey29
      obtain ⟨ty29, ry29⟩ := Rg_addx (a' := (1)) (b' := (10)) (rfl : x4_45.toInt = _) (by decide : Int32.toInt 1 = 1) r11 (Rg_c (x := 1) (a := (1)) (b := (1)) (by decide)) (by decide)
      rw [← ey29] at ty29 ry29
      refine lv_iinc (v := y29) (lv' := [(4, .int y29), (3, .int y28), (0, .ref a0), (2, .int x2)]) hx hb dX9_find_90 hl (k := 3) rfl (by rw [ey29]; rfl) (by decide) rfl (fun ls hl => ?_)
      refine lv_goto (tgt := 45) hx hb dX9_find_93 (by decide) ?_
      exact ih_45 I24 _ _ _ y28 y29 (lp_up hn_45 ty29 (Rg_ltc r11 (by decide))) hH hv oI sm r2_45 ry28 (Rg_w ry29 (by decide)) (by rw [← f25]; exact Rg_w ry23 (by decide)) (by rw [← f25, ty23, ty29]; have a1 := g0_45; rw [← em5_45] at a1; omega) (lv_sub hl [2, 3, 1, 0] rfl)
  refine lv_icmp_lt (tgt := 27) hx hb dX9_find_22 (by decide) (fun q32 => ?_) (fun q32 => ?_)
  rotate_left
  · replace hv := fnN hv q32
    have l41 := Rg_nlt q32
    have r42 : Rg y6 (268435456) (2147483647) := Rg_lle (Rg_any y6) (Rg_nlt q32) (Rg_c (x := 268435456) (a := (268435456)) (b := (268435456)) (by decide)) (by decide)
    refine lv_iconst (v := 0) hx hb dX9_find_25 (by decide) ?_
    exact ret (0) _ _ _ _ _ _ _ dX9_find_26 hH (Rg_01 (Rg_w (Rg_c (x := 0) (a := (0)) (b := (0)) (by decide)) (by decide))) ⟨⟨oI, oR, sm⟩, rfl, rfl, (Rg_w (Rg_c (x := 0) (a := (0)) (b := (0)) (by decide)) (by decide)), (hT.symm.trans hv)⟩
  replace hv := fnP hv q32
  have l33 := Rg_lt q32
  have r34 : Rg y6 (-2147483648) (268435455) := Rg_ult (Rg_any y6) (Rg_lt q32) (Rg_c (x := 268435456) (a := (268435456)) (b := (268435456)) (by decide)) (by decide)
  refine lv_aload_n hx hb dX9_find_27 rfl (lv_at hl 0 rfl) ?_
  refine lv_aload_n hx hb dX9_find_28 rfl (lv_at hl 0 rfl) ?_
  refine gf_9_3 vb5 hx hb hts hown hH m0 k0 rfl kf_X9_15 dX9_find_29 ?_
  refine lv_iload_n hx hb dX9_find_32 rfl (lv_at hl 1 rfl) ?_
  refine ld_46 hx hb hH mb5 kb5 (Rg_in h1 (by decide)) dX9_find_33 ?_
  refine lv_topi (fun y35 ey35 => ?_)
  obtain rfl : y6 = y35 := ey6.trans ey35.symm
  refine lv_bipush (v := 16) hx hb dX9_find_34 (by decide) ?_
  refine lv_idiv hx hb dX9_find_36 (by decide) ?_
  refine lv_topi (fun y36 ey36 => ?_)
  replace hv := fnS hv ey36
  refine pf_9_4 hx hb hts hown hH m0 k0 rfl kf_X9_18 dX9_find_37 (fun I37 H locs eI37 hH => ?_)
  replace hv := fnS hv eI37
  have oI : OkI L C I37 := by rw [eI37]; exact wf_9_4 oI k0 (Rg_any y36)
  have sm : Sm C ms_X9_find (I, J, R) (I37, J, R) := by rw [eI37]; exact sm.stI k0 (mC_obj (by decide) rfl)
  have f38 : y36 = I37 a0 4 := by rw [eI37, u2_at]
  refine lv_iload_n hx hb dX9_find_40 rfl (lv_at hl 1 rfl) ?_
  refine lv_istore_n (lv' := [(3, .int x1), (0, .ref a0), (1, .int x1), (2, .int x2)]) hx hb dX9_find_41 rfl hl (by decide) rfl (fun ls hl => ?_)
  refine lv_iconst (v := 0) hx hb dX9_find_42 (by decide) ?_
  refine lv_istore (lv' := [(4, .int 0), (3, .int x1), (0, .ref a0), (1, .int x1), (2, .int x2)]) hx hb dX9_find_43 hl (by decide) rfl (fun ls hl => ?_)
  have f40 : I37 a0 (5) = I3 a0 (5) := (by rw [eI37, u2_nk (by decide)])
  have f39 : 0 = I37 a0 (5) := f4.trans f40.symm
  exact L_45 ((10 - (0 : Int32).toInt).toNat + 1) I37 _ _ _ x1 0 (Nat.lt_succ_self _) hH hv oI sm h2 (Rg_w h1 (by decide)) (Rg_w (Rg_c (x := 0) (a := (0)) (b := (0)) (by decide)) (by decide)) (by rw [← f39]; exact Rg_w (Rg_c (x := 0) (a := (0)) (b := (0)) (by decide)) (by decide)) (by rw [← f39]) (lv_sub hl [2, 4, 1, 0] rfl)
