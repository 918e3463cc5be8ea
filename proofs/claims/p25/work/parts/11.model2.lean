noncomputable def F_X11_isMember (a0 : Nat) (x1 : Int32) (x2 : Int32) (I : hI) (J : hJ) (R : hR) : Int32 :=
  nm ((R a0 8).getD 0) fun b1 => nm (I b1 (Int32.toNatClampNeg x1)) fun y2 => nm (y2 - (1 : Int32)) fun y3 => nm (F_X11_in (x2.toInt64) (0 : Int64) (y3.toInt64)) fun y4 => (if y4 = (1 : Int32) then (1 : Int32) else (0 : Int32))
set_option maxHeartbeats 4000000 in
set_option maxRecDepth 100000 in
theorem c_X11_isMember {l : Launch} {D : va_G} {cy : Nat → ClassId} {L : List Nat} {C : Nat → Nat} {b0 : Nat} {I : hI} {J : hJ} {R : hR} {a0 : Nat} {x1 : Int32} {x2 : Int32} (oI : OkI L C I) (oR : OkR L C R) (m0 : a0 ∈ L) (k0 : C a0 = 11) (h1 : Rg x1 (0) (19)) : CI l yX11_isMember cX11_isMember 3 .boolean 1 D cy L C b0 [.ref a0, .int x1, .int x2] (I, J, R) (fun r v => v.1 = I ∧ v.2.1 = J ∧ v.2.2 = R ∧ Rg r (0) (1) ∧ ((r = 1 ∧ 0 ≤ x2.toInt ∧ x2.toInt ≤ 5) ∨ r = 0) ∧ F_X11_isMember a0 x1 x2 I J R = r) := by
  refine CI.mkZ (plainFor_of_name (by decide)) (Nat.le_of_ble_eq_true rfl) ?_
  intro p e s m args below meth c ls Q hF ret hH hl
  obtain ⟨hx, hb, -, hml, hown, hts, -⟩ := hF
  have hl : lv_has ls 3 [(0, .ref a0), (1, .int x1), (2, .int x2)] := hl
  have hH : Hp D cy L C b0 s s.heap I J R s.heap [] := hH
  obtain ⟨TT0, hT⟩ : ∃ TT0, TT0 = F_X11_isMember a0 x1 x2 I J R := ⟨_, rfl⟩
  have hv := hT
  unfold F_X11_isMember at hv
  refine lv_iload_n hx hb dX11_isMember_0 rfl (lv_at hl 2 rfl) ?_
  refine lv_i2l (v := x2.toInt64) hx hb dX11_isMember_1 rfl ?_
  refine lv_lconst (v := 0) hx hb dX11_isMember_2 (by decide) ?_
  refine lv_aload_n hx hb dX11_isMember_3 rfl (lv_at hl 0 rfl) ?_
  obtain ⟨b1, mb1, vb1, kb1⟩ := rf_11_8 oR m0 k0
  replace hv := fnR hv vb1
  refine gf_11_8 vb1 hx hb hts hown hH m0 k0 rfl kf_X11_29 dX11_isMember_4 ?_
  refine lv_iload_n hx hb dX11_isMember_7 rfl (lv_at hl 1 rfl) ?_
  refine ld_70 hx hb hH mb1 kb1 (Rg_in h1 (by decide)) dX11_isMember_8 ?_
  refine lv_topi (fun y2 ey2 => ?_)
  have ry2 : Rg y2 (0) (6) := by rw [ey2]; exact rd_70 oI mb1 kb1 (Rg_in h1 (by decide))
  replace hv := fnS hv ey2
  refine lv_iconst (v := 1) hx hb dX11_isMember_9 (by decide) ?_
  refine lv_isub hx hb dX11_isMember_10 ?_
  refine lv_topi (fun y3 ey3 => ?_)
  replace hv := fnS hv ey3
  obtain ⟨ty3, ry3⟩ := Rg_subx (a' := (-1)) (b' := (5)) (rfl : y2.toInt = _) (by decide : Int32.toInt 1 = 1) ry2 (Rg_c (x := 1) (a := (1)) (b := (1)) (by decide)) (by decide)
  rw [← ey3] at ty3 ry3
  refine lv_i2l (v := y3.toInt64) hx hb dX11_isMember_11 rfl ?_
  refine ca_X11_138 hx hb hml hown hts hH (c_X11_in ) hl.1 (by decide) (Nat.le_of_ble_eq_true rfl) ⟨Nat.zero_le _, Nat.zero_le _⟩ dX11_isMember_12 (fun y4 I4 J4 R4 H locs hp hH => ?_)
  obtain ⟨eI4, eJ4, eR4, ry4, hp4, hf4⟩ := hp
  obtain rfl : I = I4 := eI4.symm
  obtain rfl : J = J4 := eJ4.symm
  obtain rfl : R = R4 := eR4.symm
  replace hv := fnS hv hf4.symm
  rcases hp4 with ⟨rfl, hq4⟩ | ⟨rfl, hq4⟩
  rotate_left
  · replace hv := fnN hv (by decide)
    exact ret (0) _ _ _ _ _ _ _ dX11_isMember_15 hH (Rg_01 (Rg_w (Rg_c (x := 0) (a := (0)) (b := (0)) (by decide)) (by decide))) ⟨rfl, rfl, rfl, (Rg_w (Rg_c (x := 0) (a := (0)) (b := (0)) (by decide)) (by decide)), (by exact Or.inr rfl), (hT.symm.trans hv)⟩
  replace hv := fnP hv rfl
  have l5 : Int32.toInt 0 ≤ x2.toInt := in_cl hq4.1 (by decide)
  have r6 : Rg x2 (0) (2147483647) := Rg_lle (Rg_any x2) l5 (Rg_c (x := 0) (a := (0)) (b := (0)) (by decide)) (by decide)
  have l7 := in_ll hq4.2
  have r8 : Rg x2 (0) (5) := Rg_ule r6 l7 ry3 (by decide)
  have r9 : Rg y3 (0) (5) := Rg_lle ry3 l7 r6 (by decide)
  have r10 : Rg y2 (1) (6) := by have a1 := r9.1; have a2 := r9.2; have a3 := ry2.1; have a4 := ry2.2; exact ⟨by omega, by omega⟩
  exact ret (1) _ _ _ _ _ _ _ dX11_isMember_15 hH (Rg_01 (Rg_w (Rg_c (x := 1) (a := (1)) (b := (1)) (by decide)) (by decide))) ⟨rfl, rfl, rfl, (Rg_w (Rg_c (x := 1) (a := (1)) (b := (1)) (by decide)) (by decide)), (by exact Or.inl ⟨rfl, r8⟩), (hT.symm.trans hv)⟩
noncomputable def F_X11_work (a0 : Nat) (x1 : Int32) (x2 : Int32) (x3 : Int32) (x4 : Int32) (x5 : Int32) (I : hI) (J : hJ) (R : hR) : Int32 × hU :=
  nm (u2 I a0 0 (0 : Int32)) fun I1 => nm (F_X11_in (x1.toInt64) (0 : Int64) (9 : Int64)) fun y3 => (if y3 = (1 : Int32) then nm (F_X11_in (x3.toInt64) (0 : Int64) (2 : Int64)) fun y9 => (if y9 = (1 : Int32) then (if x3 = (0 : Int32) then nm (F_X11_in (x4.toInt64) (-1 : Int64) (2 : Int64)) fun y45 => (if y45 = (1 : Int32) then (if x3 = (0 : Int32) then nm (F_X11_in (x5.toInt64) (-1000 : Int64) (1000 : Int64)) fun y54 => (if y54 = (1 : Int32) then nm (F_X11_isMember a0 x1 x2 I1 J R) fun y60 => (if y60 = (1 : Int32) then nm ((6 : Int32) * x1) fun y63 => nm (y63 + x2) fun y64 => nm ((R a0 13).getD 0) fun b65 => nm (u2 I1 b65 (Int32.toNatClampNeg y64) x3) fun I66 => nm ((R a0 14).getD 0) fun b67 => nm (u2 I66 b67 (Int32.toNatClampNeg y64) x4) fun I68 => nm ((R a0 15).getD 0) fun b69 => (if x3 = (0 : Int32) then nm (u2 I68 b69 (Int32.toNatClampNeg y64) x5) fun I73 => ((0 : Int32), (I73, J, R)) else default) else ((-2 : Int32), (I1, J, R))) else ((-3 : Int32), (I1, J, R))) else default) else ((-3 : Int32), (I1, J, R))) else nm (F_X11_in (x4.toInt64) (0 : Int64) (2 : Int64)) fun y18 => (if y18 = (1 : Int32) then (if x3 = (0 : Int32) then default else nm (F_X11_isMember a0 x1 x2 I1 J R) fun y26 => (if y26 = (1 : Int32) then nm ((6 : Int32) * x1) fun y29 => nm (y29 + x2) fun y30 => nm ((R a0 13).getD 0) fun b31 => nm (u2 I1 b31 (Int32.toNatClampNeg y30) x3) fun I32 => nm ((R a0 14).getD 0) fun b33 => nm (u2 I32 b33 (Int32.toNatClampNeg y30) x4) fun I34 => nm ((R a0 15).getD 0) fun b35 => (if x3 = (0 : Int32) then default else nm (u2 I34 b35 (Int32.toNatClampNeg y30) (0 : Int32)) fun I38 => ((0 : Int32), (I38, J, R))) else ((-2 : Int32), (I1, J, R)))) else ((-3 : Int32), (I1, J, R)))) else ((-3 : Int32), (I1, J, R))) else ((-3 : Int32), (I1, J, R)))
def ms_X11_work : List Nat := [704, 4800, 4864, 4928]
set_option maxHeartbeats 4000000 in
set_option maxRecDepth 100000 in
theorem c_X11_work {l : Launch} {D : va_G} {cy : Nat → ClassId} {L : List Nat} {C : Nat → Nat} {b0 : Nat} {I : hI} {J : hJ} {R : hR} {a0 : Nat} {x1 : Int32} {x2 : Int32} {x3 : Int32} {x4 : Int32} {x5 : Int32} (oI : OkI L C I) (oR : OkR L C R) (m0 : a0 ∈ L) (k0 : C a0 = 11) (hXW : XW L C I) (hU : Uq L C) : CI l yX11_work cX11_work 7 .int 2 D cy L C b0 [.ref a0, .int x1, .int x2, .int x3, .int x4, .int x5] (I, J, R) (fun r v => Ps L C ms_X11_work (I, J, R) v ∧ v.2.1 = J ∧ v.2.2 = R ∧ Rg r (-3) (0) ∧ (XW L C v.1) ∧ F_X11_work a0 x1 x2 x3 x4 x5 I J R = (r, v)) := by
  refine CI.mkI (plainFor_of_name (by decide)) (Nat.le_of_ble_eq_true rfl) ?_
  intro p e s m args below meth c ls Q hF ret hH hl
  obtain ⟨hx, hb, -, hml, hown, hts, -⟩ := hF
  have hl : lv_has ls 7 [(0, .ref a0), (1, .int x1), (2, .int x2), (3, .int x3), (4, .int x4), (5, .int x5)] := hl
  have hH : Hp D cy L C b0 s s.heap I J R s.heap [] := hH
  have sm : Sm C ms_X11_work (I, J, R) (I, J, R) := Sm.rf
  obtain ⟨TT0, hT⟩ : ∃ TT0, TT0 = F_X11_work a0 x1 x2 x3 x4 x5 I J R := ⟨_, rfl⟩
  have hv := hT
  unfold F_X11_work at hv
  refine lv_aload_n hx hb dX11_work_0 rfl (lv_at hl 0 rfl) ?_
  refine lv_iconst (v := 0) hx hb dX11_work_1 (by decide) ?_
  refine pf_11_0 hx hb hts hown hH m0 k0 rfl kf_X11_131 dX11_work_2 (fun I1 H locs eI1 hH => ?_)
  replace hv := fnS hv eI1
  have oI : OkI L C I1 := by rw [eI1]; exact wf_11_0 oI k0 (Rg_w (Rg_c (x := 0) (a := (0)) (b := (0)) (by decide)) (by decide))
  have sm : Sm C ms_X11_work (I, J, R) (I1, J, R) := by rw [eI1]; exact sm.stI k0 (mC_obj (by decide) rfl)
  have f2 : 0 = I1 a0 0 := by rw [eI1, u2_at]
  refine lv_iload_n hx hb dX11_work_5 rfl (lv_at hl 1 rfl) ?_
  refine lv_i2l (v := x1.toInt64) hx hb dX11_work_6 rfl ?_
  refine lv_lconst (v := 0) hx hb dX11_work_7 (by decide) ?_
  refine lv_ldc2 (v := 9) hx hb hown (hts _ kkl_X11_221) dX11_work_8 ?_
  refine ca_X11_138 hx hb hml hown hts hH (c_X11_in ) hl.1 (by decide) (Nat.le_of_ble_eq_true rfl) ⟨Nat.zero_le _, Nat.zero_le _⟩ dX11_work_11 (fun y3 I3 J3 R3 H locs hp hH => ?_)
  obtain ⟨eI3, eJ3, eR3, ry3, hp3, hf3⟩ := hp
  obtain rfl : I1 = I3 := eI3.symm
  obtain rfl : J = J3 := eJ3.symm
  obtain rfl : R = R3 := eR3.symm
  replace hv := fnS hv hf3.symm
  rcases hp3 with ⟨rfl, hq3⟩ | ⟨rfl, hq3⟩
  rotate_left
  · replace hv := fnN hv (by decide)
    refine lv_if_eq (tgt := 71) hx hb dX11_work_14 (by decide) (fun q78 => ?_) (fun q78 => ?_)
    rotate_left
    · exact absurd rfl q78
    refine lv_bipush (v := (-3)) hx hb dX11_work_71 (by decide) ?_
    exact ret ((-3)) _ _ _ _ _ _ _ dX11_work_73 hH ⟨⟨oI, oR, sm⟩, rfl, rfl, (Rg_w (Rg_c (x := (-3)) (a := (-3)) (b := (-3)) (by decide)) (by decide)), (by exact (by rw [eI1]; exact XW.off hXW k0 (by decide) (by decide))), (hT.symm.trans hv)⟩
  replace hv := fnP hv rfl
  have l4 : Int32.toInt 0 ≤ x1.toInt := in_cl hq3.1 (by decide)
  have r5 : Rg x1 (0) (2147483647) := Rg_lle (Rg_any x1) l4 (Rg_c (x := 0) (a := (0)) (b := (0)) (by decide)) (by decide)
  have l6 : x1.toInt ≤ Int32.toInt 9 := in_lc hq3.2 (by decide)
  have r7 : Rg x1 (0) (9) := Rg_ule r5 l6 (Rg_c (x := 9) (a := (9)) (b := (9)) (by decide)) (by decide)
  refine lv_if_eq (tgt := 71) hx hb dX11_work_14 (by decide) (fun q8 => ?_) (fun q8 => ?_)
  · exact absurd q8 (by decide)
  refine lv_iload_n hx hb dX11_work_17 rfl (lv_at hl 3 rfl) ?_
  refine lv_i2l (v := x3.toInt64) hx hb dX11_work_18 rfl ?_
  refine lv_lconst (v := 0) hx hb dX11_work_19 (by decide) ?_
  refine lv_ldc2 (v := 2) hx hb hown (hts _ kkl_X11_227) dX11_work_20 ?_
  refine ca_X11_138 hx hb hml hown hts hH (c_X11_in ) hl.1 (by decide) (Nat.le_of_ble_eq_true rfl) ⟨Nat.zero_le _, Nat.zero_le _⟩ dX11_work_23 (fun y9 I9 J9 R9 H locs hp hH => ?_)
  obtain ⟨eI9, eJ9, eR9, ry9, hp9, hf9⟩ := hp
  obtain rfl : I1 = I9 := eI9.symm
  obtain rfl : J = J9 := eJ9.symm
  obtain rfl : R = R9 := eR9.symm
  replace hv := fnS hv hf9.symm
  rcases hp9 with ⟨rfl, hq9⟩ | ⟨rfl, hq9⟩
  rotate_left
  · replace hv := fnN hv (by decide)
    refine lv_if_eq (tgt := 71) hx hb dX11_work_26 (by decide) (fun q77 => ?_) (fun q77 => ?_)
    rotate_left
    · exact absurd rfl q77
    refine lv_bipush (v := (-3)) hx hb dX11_work_71 (by decide) ?_
    exact ret ((-3)) _ _ _ _ _ _ _ dX11_work_73 hH ⟨⟨oI, oR, sm⟩, rfl, rfl, (Rg_w (Rg_c (x := (-3)) (a := (-3)) (b := (-3)) (by decide)) (by decide)), (by exact (by rw [eI1]; exact XW.off hXW k0 (by decide) (by decide))), (hT.symm.trans hv)⟩
  replace hv := fnP hv rfl
  have l10 : Int32.toInt 0 ≤ x3.toInt := in_cl hq9.1 (by decide)
  have r11 : Rg x3 (0) (2147483647) := Rg_lle (Rg_any x3) l10 (Rg_c (x := 0) (a := (0)) (b := (0)) (by decide)) (by decide)
  have l12 : x3.toInt ≤ Int32.toInt 2 := in_lc hq9.2 (by decide)
  have r13 : Rg x3 (0) (2) := Rg_ule r11 l12 (Rg_c (x := 2) (a := (2)) (b := (2)) (by decide)) (by decide)
  refine lv_if_eq (tgt := 71) hx hb dX11_work_26 (by decide) (fun q14 => ?_) (fun q14 => ?_)
  · exact absurd q14 (by decide)
  refine lv_iload hx hb dX11_work_29 (lv_at hl 4 rfl) ?_
  refine lv_i2l (v := x4.toInt64) hx hb dX11_work_31 rfl ?_
  refine lv_iload_n hx hb dX11_work_32 rfl (lv_at hl 3 rfl) ?_
  refine lv_if_ne (tgt := 42) hx hb dX11_work_33 (by decide) (fun q15 => ?_) (fun q15 => ?_)
  · replace hv := fnN hv q15
    have l16 := Rg_ne q15
    have r17 : Rg x3 (1) (2) := Rg_nelo r13 (Rg_ne q15) (Rg_c (x := 0) (a := (0)) (b := (0)) (by decide)) (by decide)
    refine lv_lconst (v := 0) hx hb dX11_work_42 (by decide) ?_
    refine lv_ldc2 (v := 2) hx hb hown (hts _ kkl_X11_227) dX11_work_43 ?_
    refine ca_X11_138 hx hb hml hown hts hH (c_X11_in ) hl.1 (by decide) (Nat.le_of_ble_eq_true rfl) ⟨Nat.zero_le _, Nat.zero_le _⟩ dX11_work_46 (fun y18 I18 J18 R18 H locs hp hH => ?_)
    obtain ⟨eI18, eJ18, eR18, ry18, hp18, hf18⟩ := hp
    obtain rfl : I1 = I18 := eI18.symm
    obtain rfl : J = J18 := eJ18.symm
    obtain rfl : R = R18 := eR18.symm
    replace hv := fnS hv hf18.symm
    rcases hp18 with ⟨rfl, hq18⟩ | ⟨rfl, hq18⟩
    rotate_left
    · replace hv := fnN hv (by decide)
      refine lv_if_eq (tgt := 71) hx hb dX11_work_49 (by decide) (fun q42 => ?_) (fun q42 => ?_)
      rotate_left
      · exact absurd rfl q42
      refine lv_bipush (v := (-3)) hx hb dX11_work_71 (by decide) ?_
      exact ret ((-3)) _ _ _ _ _ _ _ dX11_work_73 hH ⟨⟨oI, oR, sm⟩, rfl, rfl, (Rg_w (Rg_c (x := (-3)) (a := (-3)) (b := (-3)) (by decide)) (by decide)), (by exact (by rw [eI1]; exact XW.off hXW k0 (by decide) (by decide))), (hT.symm.trans hv)⟩
    replace hv := fnP hv rfl
    have l19 : Int32.toInt 0 ≤ x4.toInt := in_cl hq18.1 (by decide)
    have r20 : Rg x4 (0) (2147483647) := Rg_lle (Rg_any x4) l19 (Rg_c (x := 0) (a := (0)) (b := (0)) (by decide)) (by decide)
    have l21 : x4.toInt ≤ Int32.toInt 2 := in_lc hq18.2 (by decide)
    have r22 : Rg x4 (0) (2) := Rg_ule r20 l21 (Rg_c (x := 2) (a := (2)) (b := (2)) (by decide)) (by decide)
    refine lv_if_eq (tgt := 71) hx hb dX11_work_49 (by decide) (fun q23 => ?_) (fun q23 => ?_)
    · exact absurd q23 (by decide)
    refine lv_iload_n hx hb dX11_work_52 rfl (lv_at hl 3 rfl) ?_
    refine lv_if_ne (tgt := 74) hx hb dX11_work_53 (by decide) (fun q24 => ?_) (fun q24 => ?_)
    rotate_left
    · replace hv := fnP hv q24
      exact Rg_no (Rg_both r17 (Rg_eqv q24 (Rg_c (x := 0) (a := (0)) (b := (0)) (by decide))) (a' := (1)) (b' := (0)) (by decide)) (by decide)
    replace hv := fnN hv q24
    have l25 := Rg_ne q24
    refine lv_aload_n hx hb dX11_work_74 rfl (lv_at hl 0 rfl) ?_
    refine lv_iload_n hx hb dX11_work_75 rfl (lv_at hl 1 rfl) ?_
    refine lv_iload_n hx hb dX11_work_76 rfl (lv_at hl 2 rfl) ?_
    refine ca_X11_235 hx hb hml hown hts hH (c_X11_isMember oI oR m0 k0 (Rg_w r7 (by decide))) hl.1 m0 k0 rfl (by decide) (Nat.le_of_ble_eq_true rfl) ⟨Nat.zero_le _, Nat.zero_le _⟩ dX11_work_77 (fun y26 I26 J26 R26 H locs hp hH => ?_)
    obtain ⟨eI26, eJ26, eR26, ry26, hp26, hf26⟩ := hp
    obtain rfl : I1 = I26 := eI26.symm
    obtain rfl : J = J26 := eJ26.symm
    obtain rfl : R = R26 := eR26.symm
    replace hv := fnS hv hf26.symm
    rcases hp26 with ⟨rfl, hq26⟩ | rfl
    rotate_left
    · replace hv := fnN hv (by decide)
      refine lv_if_ne (tgt := 86) hx hb dX11_work_80 (by decide) (fun q40 => ?_) (fun q40 => ?_)
      · exact absurd rfl q40
      refine lv_bipush (v := (-2)) hx hb dX11_work_83 (by decide) ?_
      exact ret ((-2)) _ _ _ _ _ _ _ dX11_work_85 hH ⟨⟨oI, oR, sm⟩, rfl, rfl, (Rg_w (Rg_c (x := (-2)) (a := (-2)) (b := (-2)) (by decide)) (by decide)), (by exact (by rw [eI1]; exact XW.off hXW k0 (by decide) (by decide))), (hT.symm.trans hv)⟩
    replace hv := fnP hv rfl
    have r27 : Rg x2 (0) (5) := Rg_both (Rg_any x2) ⟨hq26.1, hq26.2⟩ (by decide)
    refine lv_if_ne (tgt := 86) hx hb dX11_work_80 (by decide) (fun q28 => ?_) (fun q28 => ?_)
    rotate_left
    · exact absurd q28 (by decide)
    refine lv_bipush (v := 6) hx hb dX11_work_86 (by decide) ?_
    refine lv_iload_n hx hb dX11_work_88 rfl (lv_at hl 1 rfl) ?_
    refine lv_imul hx hb dX11_work_89 ?_
    refine lv_topi (fun y29 ey29 => ?_)
    replace hv := fnS hv ey29
    obtain ⟨ty29, ry29⟩ := Rg_mulx (a' := (0)) (b' := (54)) (by decide : Int32.toInt 6 = 6) (rfl : x1.toInt = _) (Rg_c (x := 6) (a := (6)) (b := (6)) (by decide)) r7 (by decide)
    rw [← ey29] at ty29 ry29
    refine lv_iload_n hx hb dX11_work_90 rfl (lv_at hl 2 rfl) ?_
    refine lv_iadd hx hb dX11_work_91 ?_
    refine lv_topi (fun y30 ey30 => ?_)
    replace hv := fnS hv ey30
    obtain ⟨ty30, ry30⟩ := Rg_addx (a' := (0)) (b' := (59)) (rfl : y29.toInt = _) (rfl : x2.toInt = _) ry29 r27 (by decide)
    rw [← ey30] at ty30 ry30
    refine lv_istore (lv' := [(6, .int y30), (0, .ref a0), (1, .int x1), (2, .int x2), (3, .int x3), (4, .int x4), (5, .int x5)]) hx hb dX11_work_92 hl (by decide) rfl (fun ls hl => ?_)
    refine lv_aload_n hx hb dX11_work_94 rfl (lv_at hl 1 rfl) ?_
    obtain ⟨b31, mb31, vb31, kb31⟩ := rf_11_13 oR m0 k0
    replace hv := fnR hv vb31
    refine gf_11_13 vb31 hx hb hts hown hH m0 k0 rfl kf_X11_44 dX11_work_95 ?_
    refine lv_iload hx hb dX11_work_98 (lv_at hl 0 rfl) ?_
    refine lv_iload_n hx hb dX11_work_100 rfl (lv_at hl 4 rfl) ?_
    refine st_75 hx hb hH mb31 kb31 (Rg_in ry30 (by decide)) dX11_work_101 (fun I32 H locs eI32 hH => ?_)
    replace hv := fnS hv eI32
    have oI : OkI L C I32 := by rw [eI32]; exact wr_75 oI kb31 (Rg_w r17 (by decide))
    have sm : Sm C ms_X11_work (I, J, R) (I32, J, R) := by rw [eI32]; exact sm.stI kb31 (mC_arr (by decide) rfl)
    refine lv_aload_n hx hb dX11_work_102 rfl (lv_at hl 1 rfl) ?_
    obtain ⟨b33, mb33, vb33, kb33⟩ := rf_11_14 oR m0 k0
    replace hv := fnR hv vb33
    refine gf_11_14 vb33 hx hb hts hown hH m0 k0 rfl kf_X11_47 dX11_work_103 ?_
    refine lv_iload hx hb dX11_work_106 (lv_at hl 0 rfl) ?_
    refine lv_iload hx hb dX11_work_108 (lv_at hl 5 rfl) ?_
    refine st_76 hx hb hH mb33 kb33 (Rg_in ry30 (by decide)) dX11_work_110 (fun I34 H locs eI34 hH => ?_)
    replace hv := fnS hv eI34
    have oI : OkI L C I34 := by rw [eI34]; exact wr_76 oI kb33 (Rg_w r22 (by decide))
    have sm : Sm C ms_X11_work (I, J, R) (I34, J, R) := by rw [eI34]; exact sm.stI kb33 (mC_arr (by decide) rfl)
    refine lv_aload_n hx hb dX11_work_111 rfl (lv_at hl 1 rfl) ?_
    obtain ⟨b35, mb35, vb35, kb35⟩ := rf_11_15 oR m0 k0
    replace hv := fnR hv vb35
    refine gf_11_15 vb35 hx hb hts hown hH m0 k0 rfl kf_X11_50 dX11_work_112 ?_
    refine lv_iload hx hb dX11_work_115 (lv_at hl 0 rfl) ?_
    refine lv_iload_n hx hb dX11_work_117 rfl (lv_at hl 4 rfl) ?_
    refine lv_if_ne (tgt := 126) hx hb dX11_work_118 (by decide) (fun q36 => ?_) (fun q36 => ?_)
    rotate_left
    · replace hv := fnP hv q36
      exact Rg_no (Rg_both r17 (Rg_eqv q36 (Rg_c (x := 0) (a := (0)) (b := (0)) (by decide))) (a' := (1)) (b' := (0)) (by decide)) (by decide)
    replace hv := fnN hv q36
    have l37 := Rg_ne q36
    refine lv_iconst (v := 0) hx hb dX11_work_126 (by decide) ?_
    refine st_77 hx hb hH mb35 kb35 (Rg_in ry30 (by decide)) dX11_work_127 (fun I38 H locs eI38 hH => ?_)
    replace hv := fnS hv eI38
    have oI : OkI L C I38 := by rw [eI38]; exact wr_77 oI kb35 (Rg_w (Rg_c (x := 0) (a := (0)) (b := (0)) (by decide)) (by decide))
    have sm : Sm C ms_X11_work (I, J, R) (I38, J, R) := by rw [eI38]; exact sm.stI kb35 (mC_arr (by decide) rfl)
    refine lv_iconst (v := 0) hx hb dX11_work_128 (by decide) ?_
    exact ret (0) _ _ _ _ _ _ _ dX11_work_129 hH ⟨⟨oI, oR, sm⟩, rfl, rfl, (Rg_w (Rg_c (x := 0) (a := (0)) (b := (0)) (by decide)) (by decide)), (by exact (by rw [eI38]; exact XW.off (by rw [eI34, eI32]; exact XW.put hU (by rw [eI1]; exact XW.off hXW k0 (by decide) (by decide)) mb31 kb31 mb33 kb33 (fun _ => (Rg_w (a' := 0) (b' := 2) r22 (by decide)).1)) kb35 (by decide) (by decide))), (hT.symm.trans hv)⟩
  replace hv := fnP hv q15
  have l43 := congrArg Int32.toInt q15
  have r44 : Rg x3 (0) (0) := Rg_both r13 (Rg_eqv q15 (Rg_c (x := 0) (a := (0)) (b := (0)) (by decide))) (by decide)
  refine lv_ldc2 (v := (-1)) hx hb hown (hts _ kkl_X11_229) dX11_work_36 ?_
  refine lv_goto (tgt := 43) hx hb dX11_work_39 (by decide) ?_
  refine lv_ldc2 (v := 2) hx hb hown (hts _ kkl_X11_227) dX11_work_43 ?_
  refine ca_X11_138 hx hb hml hown hts hH (c_X11_in ) hl.1 (by decide) (Nat.le_of_ble_eq_true rfl) ⟨Nat.zero_le _, Nat.zero_le _⟩ dX11_work_46 (fun y45 I45 J45 R45 H locs hp hH => ?_)
  obtain ⟨eI45, eJ45, eR45, ry45, hp45, hf45⟩ := hp
  obtain rfl : I1 = I45 := eI45.symm
  obtain rfl : J = J45 := eJ45.symm
  obtain rfl : R = R45 := eR45.symm
  replace hv := fnS hv hf45.symm
  rcases hp45 with ⟨rfl, hq45⟩ | ⟨rfl, hq45⟩
  rotate_left
  · replace hv := fnN hv (by decide)
    refine lv_if_eq (tgt := 71) hx hb dX11_work_49 (by decide) (fun q76 => ?_) (fun q76 => ?_)
    rotate_left
    · exact absurd rfl q76
    refine lv_bipush (v := (-3)) hx hb dX11_work_71 (by decide) ?_
    exact ret ((-3)) _ _ _ _ _ _ _ dX11_work_73 hH ⟨⟨oI, oR, sm⟩, rfl, rfl, (Rg_w (Rg_c (x := (-3)) (a := (-3)) (b := (-3)) (by decide)) (by decide)), (by exact (by rw [eI1]; exact XW.off hXW k0 (by decide) (by decide))), (hT.symm.trans hv)⟩
  replace hv := fnP hv rfl
  have l46 : Int32.toInt (-1) ≤ x4.toInt := in_cl hq45.1 (by decide)
  have r47 : Rg x4 (-1) (2147483647) := Rg_lle (Rg_any x4) l46 (Rg_c (x := (-1)) (a := (-1)) (b := (-1)) (by decide)) (by decide)
  have l48 : x4.toInt ≤ Int32.toInt 2 := in_lc hq45.2 (by decide)
  have r49 : Rg x4 (-1) (2) := Rg_ule r47 l48 (Rg_c (x := 2) (a := (2)) (b := (2)) (by decide)) (by decide)
  refine lv_if_eq (tgt := 71) hx hb dX11_work_49 (by decide) (fun q50 => ?_) (fun q50 => ?_)
  · exact absurd q50 (by decide)
  refine lv_iload_n hx hb dX11_work_52 rfl (lv_at hl 3 rfl) ?_
  refine lv_if_ne (tgt := 74) hx hb dX11_work_53 (by decide) (fun q51 => ?_) (fun q51 => ?_)
  · replace hv := fnN hv q51
    exact Rg_no (Rg_nehi r44 (Rg_ne q51) (Rg_c (x := 0) (a := (0)) (b := (0)) (by decide)) (b' := (-1)) (by decide)) (by decide)
  replace hv := fnP hv q51
  have l53 := congrArg Int32.toInt q51
  refine lv_iload hx hb dX11_work_56 (lv_at hl 5 rfl) ?_
  refine lv_i2l (v := x5.toInt64) hx hb dX11_work_58 rfl ?_
  refine lv_ldc2 (v := (-1000)) hx hb hown (hts _ kkl_X11_231) dX11_work_59 ?_
  refine lv_ldc2 (v := 1000) hx hb hown (hts _ kkl_X11_233) dX11_work_62 ?_
  refine ca_X11_138 hx hb hml hown hts hH (c_X11_in ) hl.1 (by decide) (Nat.le_of_ble_eq_true rfl) ⟨Nat.zero_le _, Nat.zero_le _⟩ dX11_work_65 (fun y54 I54 J54 R54 H locs hp hH => ?_)
  obtain ⟨eI54, eJ54, eR54, ry54, hp54, hf54⟩ := hp
  obtain rfl : I1 = I54 := eI54.symm
  obtain rfl : J = J54 := eJ54.symm
  obtain rfl : R = R54 := eR54.symm
  replace hv := fnS hv hf54.symm
  rcases hp54 with ⟨rfl, hq54⟩ | ⟨rfl, hq54⟩
  rotate_left
  · replace hv := fnN hv (by decide)
    refine lv_if_ne (tgt := 74) hx hb dX11_work_68 (by decide) (fun q75 => ?_) (fun q75 => ?_)
    · exact absurd rfl q75
    refine lv_bipush (v := (-3)) hx hb dX11_work_71 (by decide) ?_
    exact ret ((-3)) _ _ _ _ _ _ _ dX11_work_73 hH ⟨⟨oI, oR, sm⟩, rfl, rfl, (Rg_w (Rg_c (x := (-3)) (a := (-3)) (b := (-3)) (by decide)) (by decide)), (by exact (by rw [eI1]; exact XW.off hXW k0 (by decide) (by decide))), (hT.symm.trans hv)⟩
  replace hv := fnP hv rfl
  have l55 : Int32.toInt (-1000) ≤ x5.toInt := in_cl hq54.1 (by decide)
  have r56 : Rg x5 (-1000) (2147483647) := Rg_lle (Rg_any x5) l55 (Rg_c (x := (-1000)) (a := (-1000)) (b := (-1000)) (by decide)) (by decide)
  have l57 : x5.toInt ≤ Int32.toInt 1000 := in_lc hq54.2 (by decide)
  have r58 : Rg x5 (-1000) (1000) := Rg_ule r56 l57 (Rg_c (x := 1000) (a := (1000)) (b := (1000)) (by decide)) (by decide)
  refine lv_if_ne (tgt := 74) hx hb dX11_work_68 (by decide) (fun q59 => ?_) (fun q59 => ?_)
  rotate_left
  · exact absurd q59 (by decide)
  refine lv_aload_n hx hb dX11_work_74 rfl (lv_at hl 0 rfl) ?_
  refine lv_iload_n hx hb dX11_work_75 rfl (lv_at hl 1 rfl) ?_
  refine lv_iload_n hx hb dX11_work_76 rfl (lv_at hl 2 rfl) ?_
  refine ca_X11_235 hx hb hml hown hts hH (c_X11_isMember oI oR m0 k0 (Rg_w r7 (by decide))) hl.1 m0 k0 rfl (by decide) (Nat.le_of_ble_eq_true rfl) ⟨Nat.zero_le _, Nat.zero_le _⟩ dX11_work_77 (fun y60 I60 J60 R60 H locs hp hH => ?_)
  obtain ⟨eI60, eJ60, eR60, ry60, hp60, hf60⟩ := hp
  obtain rfl : I1 = I60 := eI60.symm
  obtain rfl : J = J60 := eJ60.symm
  obtain rfl : R = R60 := eR60.symm
  replace hv := fnS hv hf60.symm
  rcases hp60 with ⟨rfl, hq60⟩ | rfl
  rotate_left
  · replace hv := fnN hv (by decide)
    refine lv_if_ne (tgt := 86) hx hb dX11_work_80 (by decide) (fun q74 => ?_) (fun q74 => ?_)
    · exact absurd rfl q74
    refine lv_bipush (v := (-2)) hx hb dX11_work_83 (by decide) ?_
    exact ret ((-2)) _ _ _ _ _ _ _ dX11_work_85 hH ⟨⟨oI, oR, sm⟩, rfl, rfl, (Rg_w (Rg_c (x := (-2)) (a := (-2)) (b := (-2)) (by decide)) (by decide)), (by exact (by rw [eI1]; exact XW.off hXW k0 (by decide) (by decide))), (hT.symm.trans hv)⟩
  replace hv := fnP hv rfl
  have r61 : Rg x2 (0) (5) := Rg_both (Rg_any x2) ⟨hq60.1, hq60.2⟩ (by decide)
  refine lv_if_ne (tgt := 86) hx hb dX11_work_80 (by decide) (fun q62 => ?_) (fun q62 => ?_)
  rotate_left
  · exact absurd q62 (by decide)
  refine lv_bipush (v := 6) hx hb dX11_work_86 (by decide) ?_
  refine lv_iload_n hx hb dX11_work_88 rfl (lv_at hl 1 rfl) ?_
  refine lv_imul hx hb dX11_work_89 ?_
  refine lv_topi (fun y63 ey63 => ?_)
  replace hv := fnS hv ey63
  obtain ⟨ty63, ry63⟩ := Rg_mulx (a' := (0)) (b' := (54)) (by decide : Int32.toInt 6 = 6) (rfl : x1.toInt = _) (Rg_c (x := 6) (a := (6)) (b := (6)) (by decide)) r7 (by decide)
  rw [← ey63] at ty63 ry63
  refine lv_iload_n hx hb dX11_work_90 rfl (lv_at hl 2 rfl) ?_
  refine lv_iadd hx hb dX11_work_91 ?_
  refine lv_topi (fun y64 ey64 => ?_)
  replace hv := fnS hv ey64
  obtain ⟨ty64, ry64⟩ := Rg_addx (a' := (0)) (b' := (59)) (rfl : y63.toInt = _) (rfl : x2.toInt = _) ry63 r61 (by decide)
  rw [← ey64] at ty64 ry64
  refine lv_istore (lv' := [(6, .int y64), (0, .ref a0), (1, .int x1), (2, .int x2), (3, .int x3), (4, .int x4), (5, .int x5)]) hx hb dX11_work_92 hl (by decide) rfl (fun ls hl => ?_)
  refine lv_aload_n hx hb dX11_work_94 rfl (lv_at hl 1 rfl) ?_
  obtain ⟨b65, mb65, vb65, kb65⟩ := rf_11_13 oR m0 k0
  replace hv := fnR hv vb65
  refine gf_11_13 vb65 hx hb hts hown hH m0 k0 rfl kf_X11_44 dX11_work_95 ?_
  refine lv_iload hx hb dX11_work_98 (lv_at hl 0 rfl) ?_
  refine lv_iload_n hx hb dX11_work_100 rfl (lv_at hl 4 rfl) ?_
  refine st_75 hx hb hH mb65 kb65 (Rg_in ry64 (by decide)) dX11_work_101 (fun I66 H locs eI66 hH => ?_)
  replace hv := fnS hv eI66
  have oI : OkI L C I66 := by rw [eI66]; exact wr_75 oI kb65 (Rg_w r44 (by decide))
  have sm : Sm C ms_X11_work (I, J, R) (I66, J, R) := by rw [eI66]; exact sm.stI kb65 (mC_arr (by decide) rfl)
  refine lv_aload_n hx hb dX11_work_102 rfl (lv_at hl 1 rfl) ?_
  obtain ⟨b67, mb67, vb67, kb67⟩ := rf_11_14 oR m0 k0
  replace hv := fnR hv vb67
  refine gf_11_14 vb67 hx hb hts hown hH m0 k0 rfl kf_X11_47 dX11_work_103 ?_
  refine lv_iload hx hb dX11_work_106 (lv_at hl 0 rfl) ?_
  refine lv_iload hx hb dX11_work_108 (lv_at hl 5 rfl) ?_
  refine st_76 hx hb hH mb67 kb67 (Rg_in ry64 (by decide)) dX11_work_110 (fun I68 H locs eI68 hH => ?_)
  replace hv := fnS hv eI68
  have oI : OkI L C I68 := by rw [eI68]; exact wr_76 oI kb67 r49
  have sm : Sm C ms_X11_work (I, J, R) (I68, J, R) := by rw [eI68]; exact sm.stI kb67 (mC_arr (by decide) rfl)
  refine lv_aload_n hx hb dX11_work_111 rfl (lv_at hl 1 rfl) ?_
  obtain ⟨b69, mb69, vb69, kb69⟩ := rf_11_15 oR m0 k0
  replace hv := fnR hv vb69
  refine gf_11_15 vb69 hx hb hts hown hH m0 k0 rfl kf_X11_50 dX11_work_112 ?_
  refine lv_iload hx hb dX11_work_115 (lv_at hl 0 rfl) ?_
  refine lv_iload_n hx hb dX11_work_117 rfl (lv_at hl 4 rfl) ?_
  refine lv_if_ne (tgt := 126) hx hb dX11_work_118 (by decide) (fun q70 => ?_) (fun q70 => ?_)
  · replace hv := fnN hv q70
    exact Rg_no (Rg_nehi r44 (Rg_ne q70) (Rg_c (x := 0) (a := (0)) (b := (0)) (by decide)) (b' := (-1)) (by decide)) (by decide)
  replace hv := fnP hv q70
  have l72 := congrArg Int32.toInt q70
  refine lv_iload hx hb dX11_work_121 (lv_at hl 6 rfl) ?_
  refine lv_goto (tgt := 127) hx hb dX11_work_123 (by decide) ?_
  refine st_77 hx hb hH mb69 kb69 (Rg_in ry64 (by decide)) dX11_work_127 (fun I73 H locs eI73 hH => ?_)
  replace hv := fnS hv eI73
  have oI : OkI L C I73 := by rw [eI73]; exact wr_77 oI kb69 (Rg_w r58 (by decide))
  have sm : Sm C ms_X11_work (I, J, R) (I73, J, R) := by rw [eI73]; exact sm.stI kb69 (mC_arr (by decide) rfl)
  refine lv_iconst (v := 0) hx hb dX11_work_128 (by decide) ?_
  exact ret (0) _ _ _ _ _ _ _ dX11_work_129 hH ⟨⟨oI, oR, sm⟩, rfl, rfl, (Rg_w (Rg_c (x := 0) (a := (0)) (b := (0)) (by decide)) (by decide)), (by exact (by rw [eI73]; exact XW.off (by rw [eI68, eI66]; exact XW.put hU (by rw [eI1]; exact XW.off hXW k0 (by decide) (by decide)) mb65 kb65 mb67 kb67 (fun h => absurd (Rg_eq r44) h)) kb69 (by decide) (by decide))), (hT.symm.trans hv)⟩
noncomputable def B_X11_add_136 (a0 : Nat) (x1 : Int32) (x2 : Int32) (x3 : Int32) (n8 : Nat) (k_136 : hI → hJ → hR → Int32 → Int32 → Int32 → Int32 → (Int32 × hU)) (I_136 : hI) (J : hJ) (R : hR) (x4_136 : Int32) (x5_136 : Int32) (x6_136 : Int32) (x7_136 : Int32) : Int32 × hU :=
  (if (4 : Int32) ≤ x7_136 then nm ((R a0 13).getD 0) fun b4 => nm (u2 I_136 b4 (Int32.toNatClampNeg x6_136) (0 : Int32)) fun I5 => nm ((R a0 14).getD 0) fun b6 => nm (u2 I5 b6 (Int32.toNatClampNeg x6_136) (-1 : Int32)) fun I7 => nm ((R a0 15).getD 0) fun b8 => nm (u2 I7 b8 (Int32.toNatClampNeg x6_136) (0 : Int32)) fun I9 => nm (I9 n8 (Int32.toNatClampNeg x1)) fun y10 => nm (y10 + (1 : Int32)) fun y12 => nm (u2 I9 n8 (Int32.toNatClampNeg x1) y12) fun I13 => nm (I13 n8 (Int32.toNatClampNeg x1)) fun y14 => nm (y14 - (1 : Int32)) fun y15 => (y15, (I13, J, R)) else nm ((R a0 11).getD 0) fun b18 => nm ((4 : Int32) * x6_136) fun y19 => nm (y19 + x7_136) fun y20 => (if x4_136 ≤ x7_136 then nm (u2 I_136 b18 (Int32.toNatClampNeg y20) (0 : Int32)) fun I24 => nm ((R a0 16).getD 0) fun b25 => nm (u2 I24 b25 (Int32.toNatClampNeg y20) (1 : Int32)) fun I28 => nm (x5_136 / (8 : Int32)) fun y29 => nm (x7_136 + (1 : Int32)) fun y30 => k_136 I28 J R x4_136 y29 x6_136 y30 else nm (x5_136 - x5_136 / (8 : Int32) * (8 : Int32)) fun y33 => nm (y33 - (1 : Int32)) fun y35 => nm (u2 I_136 b18 (Int32.toNatClampNeg y20) y35) fun I36 => nm ((R a0 16).getD 0) fun b37 => nm (u2 I36 b37 (Int32.toNatClampNeg y20) (1 : Int32)) fun I40 => nm (x5_136 / (8 : Int32)) fun y41 => nm (x7_136 + (1 : Int32)) fun y42 => k_136 I40 J R x4_136 y41 x6_136 y42))
noncomputable def F_X11_add_136 (a0 : Nat) (x1 : Int32) (x2 : Int32) (x3 : Int32) (n8 : Nat) : Nat → hI → hJ → hR → Int32 → Int32 → Int32 → Int32 → (Int32 × hU) := fun n => Nat.rec (motive := fun _ => hI → hJ → hR → Int32 → Int32 → Int32 → Int32 → (Int32 × hU)) (fun _ _ _ _ _ _ _ => default) (fun _ k => B_X11_add_136 a0 x1 x2 x3 n8 k) n
theorem F_X11_add_136_s {a0 : Nat} {x1 : Int32} {x2 : Int32} {x3 : Int32} {n8 : Nat} {n : Nat} {I_136 : hI} {J : hJ} {R : hR} {x4_136 : Int32} {x5_136 : Int32} {x6_136 : Int32} {x7_136 : Int32} : F_X11_add_136 a0 x1 x2 x3 n8 (n + 1)  I_136 J R x4_136 x5_136 x6_136 x7_136 = B_X11_add_136 a0 x1 x2 x3 n8 (F_X11_add_136 a0 x1 x2 x3 n8 n)  I_136 J R x4_136 x5_136 x6_136 x7_136 := rfl
noncomputable def B_X11_add_37 (a0 : Nat) (x1 : Int32) (x2 : Int32) (x3 : Int32) (n8 : Nat) (k_37 : hI → hJ → hR → Int32 → Int32 → (Int32 × hU)) (I_37 : hI) (J : hJ) (R : hR) (x4_37 : Int32) (x5_37 : Int32) : Int32 × hU :=
  (if x5_37 ≤ (0 : Int32) then nm (I_37 n8 (Int32.toNatClampNeg x1)) fun y46 => (if y46 = (6 : Int32) then ((-5 : Int32), (I_37, J, R)) else nm ((6 : Int32) * x1) fun y50 => nm (y50 + y46) fun y52 => nm ((R a0 9).getD 0) fun b53 => nm (u2 I_37 b53 (Int32.toNatClampNeg y52) x2) fun I54 => nm ((R a0 12).getD 0) fun b55 => nm (x3 - x3 / (8 : Int32) * (8 : Int32)) fun y56 => nm (u2 I54 b55 (Int32.toNatClampNeg y52) y56) fun I58 => nm ((R a0 10).getD 0) fun b59 => nm (u2 I58 b59 (Int32.toNatClampNeg y52) x4_37) fun I60 => nm (x3 / (8 : Int32)) fun y61 => F_X11_add_136 a0 x1 x2 x3 n8 ((4 - (0 : Int32).toInt).toNat + 1) I60 J R x4_37 y61 y52 (0 : Int32)) else nm (x5_37 - x5_37 / (8 : Int32) * (8 : Int32)) fun y70 => (if y70 = (0 : Int32) then ((-3 : Int32), (I_37, J, R)) else (if x4_37 = (4 : Int32) then ((-3 : Int32), (I_37, J, R)) else nm (x5_37 / (8 : Int32)) fun y79 => nm (x4_37 + (1 : Int32)) fun y80 => k_37 I_37 J R y80 y79)))
noncomputable def F_X11_add_37 (a0 : Nat) (x1 : Int32) (x2 : Int32) (x3 : Int32) (n8 : Nat) : Nat → hI → hJ → hR → Int32 → Int32 → (Int32 × hU) := fun n => Nat.rec (motive := fun _ => hI → hJ → hR → Int32 → Int32 → (Int32 × hU)) (fun _ _ _ _ _ => default) (fun _ k => B_X11_add_37 a0 x1 x2 x3 n8 k) n
theorem F_X11_add_37_s {a0 : Nat} {x1 : Int32} {x2 : Int32} {x3 : Int32} {n8 : Nat} {n : Nat} {I_37 : hI} {J : hJ} {R : hR} {x4_37 : Int32} {x5_37 : Int32} : F_X11_add_37 a0 x1 x2 x3 n8 (n + 1)  I_37 J R x4_37 x5_37 = B_X11_add_37 a0 x1 x2 x3 n8 (F_X11_add_37 a0 x1 x2 x3 n8 n)  I_37 J R x4_37 x5_37 := rfl
noncomputable def F_X11_add (a0 : Nat) (x1 : Int32) (x2 : Int32) (x3 : Int32) (I : hI) (J : hJ) (R : hR) : Int32 × hU :=
  nm ((R a0 8).getD 0) fun n8 => nm (F_X11_in (x2.toInt64) (0 : Int64) (99 : Int64)) fun y83 => (if y83 = (1 : Int32) then (if x3 < (0 : Int32) then ((-3 : Int32), (I, J, R)) else nm (x3 - x3 / (8 : Int32) * (8 : Int32)) fun y94 => (if y94 = (7 : Int32) then ((-3 : Int32), (I, J, R)) else nm (x3 / (8 : Int32)) fun y98 => F_X11_add_37 a0 x1 x2 x3 n8 ((4 - (0 : Int32).toInt).toNat + 1) I J R (0 : Int32) y98)) else ((-3 : Int32), (I, J, R)))
def ms_X11_add : List Nat := [4480, 4544, 4608, 4672, 4736, 4800, 4864, 4928, 4992]
set_option maxHeartbeats 4000000 in
set_option maxRecDepth 100000 in
theorem c_X11_add {l : Launch} {D : va_G} {cy : Nat → ClassId} {L : List Nat} {C : Nat → Nat} {b0 : Nat} {I : hI} {J : hJ} {R : hR} {a0 : Nat} {x1 : Int32} {x2 : Int32} {x3 : Int32} (oI : OkI L C I) (oR : OkR L C R) (m0 : a0 ∈ L) (k0 : C a0 = 11) (h1 : Rg x1 (0) (19)) (hXW : XW L C I) (hU : Uq L C) : CI l yX11_add cX11_add 8 .int 1 D cy L C b0 [.ref a0, .int x1, .int x2, .int x3] (I, J, R) (fun r v => Ps L C ms_X11_add (I, J, R) v ∧ v.2.1 = J ∧ v.2.2 = R ∧ Rg r (-5) (5) ∧ (XW L C v.1) ∧ F_X11_add a0 x1 x2 x3 I J R = (r, v)) := by
  refine CI.mkI (plainFor_of_name (by decide)) (Nat.le_of_ble_eq_true rfl) ?_
  intro p e s m args below meth c ls Q hF ret hH hl
  obtain ⟨hx, hb, -, hml, hown, hts, -⟩ := hF
  have hl : lv_has ls 8 [(0, .ref a0), (1, .int x1), (2, .int x2), (3, .int x3)] := hl
  have hH : Hp D cy L C b0 s s.heap I J R s.heap [] := hH
  have sm : Sm C ms_X11_add (I, J, R) (I, J, R) := Sm.rf
  obtain ⟨TT0, hT⟩ : ∃ TT0, TT0 = F_X11_add a0 x1 x2 x3 I J R := ⟨_, rfl⟩
  have hv := hT
  unfold F_X11_add at hv
  obtain ⟨n8, mn8, vn8, kn8⟩ := rf_11_8 oR m0 k0
  replace hv := fnR hv vn8
  refine lv_iload_n hx hb dX11_add_0 rfl (lv_at hl 2 rfl) ?_
  refine lv_i2l (v := x2.toInt64) hx hb dX11_add_1 rfl ?_
  refine lv_lconst (v := 0) hx hb dX11_add_2 (by decide) ?_
  refine lv_ldc2 (v := 99) hx hb hown (hts _ kkl_X11_219) dX11_add_3 ?_
  have L_136 : ∀ (n_136 : Nat) (I_136 : hI) (H : Heap) (locs : List Loc) (ls : Array Slot) (x4_136 : Int32) (x5_136 : Int32) (x6_136 : Int32) (x7_136 : Int32), (4 - x7_136.toInt).toNat < n_136 → Hp D cy L C b0 s s.heap I_136 J R H locs → TT0 = F_X11_add_136 a0 x1 x2 x3 n8 n_136 I_136 J R x4_136 x5_136 x6_136 x7_136 → OkI L C I_136 → Sm C ms_X11_add (I, J, R) (I_136, J, R) → Rg x1 (0) (19) → Rg x4_136 (0) (4) → Rg x5_136 (0) (268435455) → Rg x6_136 (0) (119) → Rg x7_136 (0) (4) → (Int32.toInt x5_136 = (((Int32.toInt x3).toNat / 8 / 8 ^ (Int32.toInt x7_136).toNat : Nat) : Int)) → (∀ j, j < (Int32.toInt x4_136).toNat → (Int32.toInt x3).toNat / 8 / 8 ^ j % 8 ≠ 0) → (XW L C I_136) → ((I_136 n8 x1.toNatClampNeg).toInt ≤ 5) → lv_has ls 8 [(0, .ref a0), (1, .int x1), (4, .int x4_136), (5, .int x5_136), (6, .int x6_136), (7, .int x7_136)] → W p l e (rmD 1) s m args below meth c H locs 0 0 Q (F0 m 136 ls []) := by
    intro n_136
    induction n_136 with
    | zero => intro I_136 H locs ls x4_136 x5_136 x6_136 x7_136 h; exact absurd h (Nat.not_lt_zero _)
    | succ n_136 ih_136 =>
      intro I_136 H locs ls x4_136 x5_136 x6_136 x7_136 hn_136 hH hv oI sm r1_136 r4_136 r5_136 r6_136 r7_136 g0_136 g1_136 g2_136 g3_136 hl
      replace hv := hv.trans F_X11_add_136_s
      unfold B_X11_add_136 at hv
      refine lv_iload hx hb dX11_add_136 (lv_at hl 5 rfl) ?_
      refine lv_iconst (v := 4) hx hb dX11_add_138 (by decide) ?_
      refine lv_icmp_ge (tgt := 198) hx hb dX11_add_139 (by decide) (fun q1 => ?_) (fun q1 => ?_)
      · replace hv := fnP hv q1
        have l2 := Rg_le q1
        have r3 : Rg x7_136 (4) (4) := Rg_lle r7_136 (Rg_le q1) (Rg_c (x := 4) (a := (4)) (b := (4)) (by decide)) (by decide)
        refine lv_aload_n hx hb dX11_add_198 rfl (lv_at hl 0 rfl) ?_
        obtain ⟨b4, mb4, vb4, kb4⟩ := rf_11_13 oR m0 k0
        replace hv := fnR hv vb4
        refine gf_11_13 vb4 hx hb hts hown hH m0 k0 rfl kf_X11_44 dX11_add_199 ?_
        refine lv_iload hx hb dX11_add_202 (lv_at hl 4 rfl) ?_
        refine lv_iconst (v := 0) hx hb dX11_add_204 (by decide) ?_
        refine st_75 hx hb hH mb4 kb4 (Rg_in r6_136 (by decide)) dX11_add_205 (fun I5 H locs eI5 hH => ?_)
        replace hv := fnS hv eI5
        have oI : OkI L C I5 := by rw [eI5]; exact wr_75 oI kb4 (Rg_w (Rg_c (x := 0) (a := (0)) (b := (0)) (by decide)) (by decide))
        have sm : Sm C ms_X11_add (I, J, R) (I5, J, R) := by rw [eI5]; exact sm.stI kb4 (mC_arr (by decide) rfl)
        refine lv_aload_n hx hb dX11_add_206 rfl (lv_at hl 0 rfl) ?_
        obtain ⟨b6, mb6, vb6, kb6⟩ := rf_11_14 oR m0 k0
        replace hv := fnR hv vb6
        refine gf_11_14 vb6 hx hb hts hown hH m0 k0 rfl kf_X11_47 dX11_add_207 ?_
        refine lv_iload hx hb dX11_add_210 (lv_at hl 4 rfl) ?_
        refine lv_iconst (v := (-1)) hx hb dX11_add_212 (by decide) ?_
        refine st_76 hx hb hH mb6 kb6 (Rg_in r6_136 (by decide)) dX11_add_213 (fun I7 H locs eI7 hH => ?_)
        replace hv := fnS hv eI7
        have oI : OkI L C I7 := by rw [eI7]; exact wr_76 oI kb6 (Rg_w (Rg_c (x := (-1)) (a := (-1)) (b := (-1)) (by decide)) (by decide))
        have sm : Sm C ms_X11_add (I, J, R) (I7, J, R) := by rw [eI7]; exact sm.stI kb6 (mC_arr (by decide) rfl)
        refine lv_aload_n hx hb dX11_add_214 rfl (lv_at hl 0 rfl) ?_
        obtain ⟨b8, mb8, vb8, kb8⟩ := rf_11_15 oR m0 k0
        replace hv := fnR hv vb8
        refine gf_11_15 vb8 hx hb hts hown hH m0 k0 rfl kf_X11_50 dX11_add_215 ?_
        refine lv_iload hx hb dX11_add_218 (lv_at hl 4 rfl) ?_
        refine lv_iconst (v := 0) hx hb dX11_add_220 (by decide) ?_
        refine st_77 hx hb hH mb8 kb8 (Rg_in r6_136 (by decide)) dX11_add_221 (fun I9 H locs eI9 hH => ?_)
        replace hv := fnS hv eI9
        have oI : OkI L C I9 := by rw [eI9]; exact wr_77 oI kb8 (Rg_w (Rg_c (x := 0) (a := (0)) (b := (0)) (by decide)) (by decide))
        have sm : Sm C ms_X11_add (I, J, R) (I9, J, R) := by rw [eI9]; exact sm.stI kb8 (mC_arr (by decide) rfl)
        refine lv_aload_n hx hb dX11_add_222 rfl (lv_at hl 0 rfl) ?_
        refine gf_11_8 vn8 hx hb hts hown hH m0 k0 rfl kf_X11_29 dX11_add_223 ?_
        refine lv_iload_n hx hb dX11_add_226 rfl (lv_at hl 1 rfl) ?_
        refine lv_dup2_11 hx hb dX11_add_227 rfl rfl ?_
        refine ld_70 hx hb hH mn8 kn8 (Rg_in r1_136 (by decide)) dX11_add_228 ?_
        refine lv_topi (fun y10 ey10 => ?_)
        have ry10 : Rg y10 (0) (6) := by rw [ey10]; exact rd_70 oI mn8 kn8 (Rg_in r1_136 (by decide))
        replace hv := fnS hv ey10
        have r11 : Rg y10 (0) (5) := ⟨ry10.1, by rw [ey10, (Eq.trans ((congrFun eI9 n8).trans (u2_ne (ne_role kn8 kb8 (by decide)))) (Eq.trans ((congrFun eI7 n8).trans (u2_ne (ne_role kn8 kb6 (by decide)))) (Eq.trans ((congrFun eI5 n8).trans (u2_ne (ne_role kn8 kb4 (by decide)))) rfl)))]; exact g3_136⟩
        refine lv_iconst (v := 1) hx hb dX11_add_229 (by decide) ?_
        refine lv_iadd hx hb dX11_add_230 ?_
        refine lv_topi (fun y12 ey12 => ?_)
        replace hv := fnS hv ey12
        obtain ⟨ty12, ry12⟩ := Rg_addx (a' := (1)) (b' := (6)) (rfl : y10.toInt = _) (by decide : Int32.toInt 1 = 1) r11 (Rg_c (x := 1) (a := (1)) (b := (1)) (by decide)) (by decide)
        rw [← ey12] at ty12 ry12
        refine st_70 hx hb hH mn8 kn8 (Rg_in r1_136 (by decide)) dX11_add_231 (fun I13 H locs eI13 hH => ?_)
        replace hv := fnS hv eI13
        have oI : OkI L C I13 := by rw [eI13]; exact wr_70 oI kn8 (Rg_w ry12 (by decide))
        have sm : Sm C ms_X11_add (I, J, R) (I13, J, R) := by rw [eI13]; exact sm.stI kn8 (mC_arr (by decide) rfl)
        refine lv_aload_n hx hb dX11_add_232 rfl (lv_at hl 0 rfl) ?_
        refine gf_11_8 vn8 hx hb hts hown hH m0 k0 rfl kf_X11_29 dX11_add_233 ?_
        refine lv_iload_n hx hb dX11_add_236 rfl (lv_at hl 1 rfl) ?_
        refine ld_70 hx hb hH mn8 kn8 (Rg_in r1_136 (by decide)) dX11_add_237 ?_
        refine lv_topi (fun y14 ey14 => ?_)
        have ry14 : Rg y14 (0) (6) := by rw [ey14]; exact rd_70 oI mn8 kn8 (Rg_in r1_136 (by decide))
        replace hv := fnS hv ey14
        refine lv_iconst (v := 1) hx hb dX11_add_238 (by decide) ?_
        refine lv_isub hx hb dX11_add_239 ?_
        refine lv_topi (fun y15 ey15 => ?_)
        replace hv := fnS hv ey15
        obtain ⟨ty15, ry15⟩ := Rg_subx (a' := (-1)) (b' := (5)) (rfl : y14.toInt = _) (by decide : Int32.toInt 1 = 1) ry14 (Rg_c (x := 1) (a := (1)) (b := (1)) (by decide)) (by decide)
        rw [← ey15] at ty15 ry15
        exact ret (y15) _ _ _ _ _ _ _ dX11_add_240 hH ⟨⟨oI, oR, sm⟩, rfl, rfl, (Rg_w ry15 (by decide)), (by exact (by rw [eI13]; exact XW.off (by rw [eI9]; exact XW.off (by rw [eI7, eI5]; exact XW.put hU g2_136 mb4 kb4 mb6 kb6 (fun h => absurd (by decide : Int32.toInt 0 = 0) h)) kb8 (by decide) (by decide)) kn8 (by decide) (by decide))), (hT.symm.trans hv)⟩
      replace hv := fnN hv q1
      have l16 := Rg_nle q1
      have r17 : Rg x7_136 (0) (3) := Rg_ult r7_136 (Rg_nle q1) (Rg_c (x := 4) (a := (4)) (b := (4)) (by decide)) (by decide)
      refine lv_aload_n hx hb dX11_add_142 rfl (lv_at hl 0 rfl) ?_
      obtain ⟨b18, mb18, vb18, kb18⟩ := rf_11_11 oR m0 k0
      replace hv := fnR hv vb18
      refine gf_11_11 vb18 hx hb hts hown hH m0 k0 rfl kf_X11_38 dX11_add_143 ?_
      refine lv_iconst (v := 4) hx hb dX11_add_146 (by decide) ?_
      refine lv_iload hx hb dX11_add_147 (lv_at hl 4 rfl) ?_
      refine lv_imul hx hb dX11_add_149 ?_
      refine lv_topi (fun y19 ey19 => ?_)
      replace hv := fnS hv ey19
      obtain ⟨ty19, ry19⟩ := Rg_mulx (a' := (0)) (b' := (476)) (by decide : Int32.toInt 4 = 4) (rfl : x6_136.toInt = _) (Rg_c (x := 4) (a := (4)) (b := (4)) (by decide)) r6_136 (by decide)
      rw [← ey19] at ty19 ry19
      refine lv_iload hx hb dX11_add_150 (lv_at hl 5 rfl) ?_
      refine lv_iadd hx hb dX11_add_152 ?_
      refine lv_topi (fun y20 ey20 => ?_)
      replace hv := fnS hv ey20
      obtain ⟨ty20, ry20⟩ := Rg_addx (a' := (0)) (b' := (479)) (rfl : y19.toInt = _) (rfl : x7_136.toInt = _) ry19 r17 (by decide)
      rw [← ey20] at ty20 ry20
      refine lv_iload hx hb dX11_add_153 (lv_at hl 5 rfl) ?_
      refine lv_iload hx hb dX11_add_155 (lv_at hl 2 rfl) ?_
      refine lv_icmp_ge (tgt := 170) hx hb dX11_add_157 (by decide) (fun q21 => ?_) (fun q21 => ?_)
      · replace hv := fnP hv q21
        have l22 := Rg_le q21
        have r23 : Rg x4_136 (0) (3) := Rg_ule r4_136 (Rg_le q21) r17 (by decide)
        refine lv_iconst (v := 0) hx hb dX11_add_170 (by decide) ?_
        refine st_73 hx hb hH mb18 kb18 (Rg_in ry20 (by decide)) dX11_add_171 (fun I24 H locs eI24 hH => ?_)
        replace hv := fnS hv eI24
        have oI : OkI L C I24 := by rw [eI24]; exact wr_73 oI kb18 (Rg_w (Rg_c (x := 0) (a := (0)) (b := (0)) (by decide)) (by decide))
        have sm : Sm C ms_X11_add (I, J, R) (I24, J, R) := by rw [eI24]; exact sm.stI kb18 (mC_arr (by decide) rfl)
        refine lv_aload_n hx hb dX11_add_172 rfl (lv_at hl 0 rfl) ?_
        obtain ⟨b25, mb25, vb25, kb25⟩ := rf_11_16 oR m0 k0
        replace hv := fnR hv vb25
        refine gf_11_16 vb25 hx hb hts hown hH m0 k0 rfl kf_X11_53 dX11_add_173 ?_
        refine lv_iconst (v := 4) hx hb dX11_add_176 (by decide) ?_
        refine lv_iload hx hb dX11_add_177 (lv_at hl 4 rfl) ?_
        refine lv_imul hx hb dX11_add_179 ?_
        refine lv_topi (fun y26 ey26 => ?_)
        obtain rfl : y19 = y26 := ey19.trans ey26.symm
        refine lv_iload hx hb dX11_add_180 (lv_at hl 5 rfl) ?_
        refine lv_iadd hx hb dX11_add_182 ?_
        refine lv_topi (fun y27 ey27 => ?_)
        obtain rfl : y20 = y27 := ey20.trans ey27.symm
        refine lv_iconst (v := 1) hx hb dX11_add_183 (by decide) ?_
        refine st_78 hx hb hH mb25 kb25 (Rg_in ry20 (by decide)) dX11_add_184 (fun I28 H locs eI28 hH => ?_)
        replace hv := fnS hv eI28
        have oI : OkI L C I28 := by rw [eI28]; exact wr_78 oI kb25 (Rg_w (Rg_c (x := 1) (a := (1)) (b := (1)) (by decide)) (by decide))
        have sm : Sm C ms_X11_add (I, J, R) (I28, J, R) := by rw [eI28]; exact sm.stI kb25 (mC_arr (by decide) rfl)
        refine lv_iload hx hb dX11_add_185 (lv_at hl 3 rfl) ?_
        refine lv_bipush (v := 8) hx hb dX11_add_187 (by decide) ?_
        refine lv_idiv hx hb dX11_add_189 (by decide) ?_
        refine lv_topi (fun y29 ey29 => ?_)
        replace hv := fnS hv ey29
        obtain ⟨ty29, ry29⟩ := Rg_divx (a' := (0)) (b' := (33554431)) (rfl : x5_136.toInt = _) (by decide : Int32.toInt 8 = 8) r5_136 (Rg_c (x := 8) (a := (8)) (b := (8)) (by decide)) (by decide)
        rw [← ey29] at ty29 ry29
        refine lv_istore (lv' := [(5, .int y29), (0, .ref a0), (1, .int x1), (4, .int x4_136), (6, .int x6_136), (7, .int x7_136)]) hx hb dX11_add_190 hl (by decide) rfl (fun ls hl => ?_)
        obtain ⟨y30, ey30⟩ : ∃ y : Int32, y = x7_136 + 1 := ⟨_, rfl⟩
        replace hv := fnS hv ey30
        obtain ⟨ty30, ry30⟩ := Rg_addx (a' := (1)) (b' := (4)) (rfl : x7_136.toInt = _) (by decide : Int32.toInt 1 = 1) r17 (Rg_c (x := 1) (a := (1)) (b := (1)) (by decide)) (by decide)
        rw [← ey30] at ty30 ry30
        refine lv_iinc (v := y30) (lv' := [(7, .int y30), (5, .int y29), (0, .ref a0), (1, .int x1), (4, .int x4_136), (6, .int x6_136)]) hx hb dX11_add_192 hl (k := 5) rfl (by rw [ey30]; rfl) (by decide) rfl (fun ls hl => ?_)
        refine lv_goto (tgt := 136) hx hb dX11_add_195 (by decide) ?_
        exact ih_136 I28 _ _ _ x4_136 y29 x6_136 y30 (lp_up hn_136 ty30 (Rg_ltc r17 (by decide))) hH hv oI sm r1_136 (Rg_w r23 (by decide)) (Rg_w ry29 (by decide)) r6_136 (Rg_w ry30 (by decide)) (by rw [show (Int32.toInt y30).toNat = (Int32.toInt x7_136).toNat + 1 by rw [ty30]; have a1 := r17.1; omega]; exact dg_step g0_136 ty29) (by exact g1_136) (by exact (by rw [eI28]; exact XW.off (by rw [eI24]; exact XW.off g2_136 kb18 (by decide) (by decide)) kb25 (by decide) (by decide))) (by rw [(Eq.trans ((congrFun eI28 n8).trans (u2_ne (ne_role kn8 kb25 (by decide)))) (Eq.trans ((congrFun eI24 n8).trans (u2_ne (ne_role kn8 kb18 (by decide)))) rfl))]; exact g3_136) (lv_sub hl [2, 3, 4, 1, 5, 0] rfl)
      replace hv := fnN hv q21
      have l31 := Rg_nle q21
      have r32 : Rg x4_136 (1) (4) := Rg_llt r4_136 (Rg_nle q21) r17 (by decide)
      refine lv_iload hx hb dX11_add_160 (lv_at hl 3 rfl) ?_
      refine lv_bipush (v := 8) hx hb dX11_add_162 (by decide) ?_
      refine lv_irem hx hb dX11_add_164 (by decide) ?_
      refine lv_topi (fun y33 ey33 => ?_)
      replace hv := fnS hv ey33
      obtain ⟨ty33, ry33⟩ := Rg_remx (b' := (7)) (rfl : x5_136.toInt = _) (by decide : Int32.toInt 8 = 8) r5_136 (Rg_c (x := 8) (a := (8)) (b := (8)) (by decide)) (by decide)
      rw [← ey33] at ty33 ry33
      have r34 : Rg y33 (1) (7) := ⟨by have a1 := g1_136 (Int32.toInt x7_136).toNat (by have b1 := r17.1; have b2 := r32.1; omega); have a2 := ty33; have a3 := g0_136; have a4 := r17.1; have a5 := ry33.1; omega, ry33.2⟩
      refine lv_iconst (v := 1) hx hb dX11_add_165 (by decide) ?_
      refine lv_isub hx hb dX11_add_166 ?_
      refine lv_topi (fun y35 ey35 => ?_)
      replace hv := fnS hv ey35
      obtain ⟨ty35, ry35⟩ := Rg_subx (a' := (0)) (b' := (6)) (rfl : y33.toInt = _) (by decide : Int32.toInt 1 = 1) r34 (Rg_c (x := 1) (a := (1)) (b := (1)) (by decide)) (by decide)
      rw [← ey35] at ty35 ry35
      refine lv_goto (tgt := 171) hx hb dX11_add_167 (by decide) ?_
      refine st_73 hx hb hH mb18 kb18 (Rg_in ry20 (by decide)) dX11_add_171 (fun I36 H locs eI36 hH => ?_)
      replace hv := fnS hv eI36
      have oI : OkI L C I36 := by rw [eI36]; exact wr_73 oI kb18 ry35
      have sm : Sm C ms_X11_add (I, J, R) (I36, J, R) := by rw [eI36]; exact sm.stI kb18 (mC_arr (by decide) rfl)
      refine lv_aload_n hx hb dX11_add_172 rfl (lv_at hl 0 rfl) ?_
      obtain ⟨b37, mb37, vb37, kb37⟩ := rf_11_16 oR m0 k0
      replace hv := fnR hv vb37
      refine gf_11_16 vb37 hx hb hts hown hH m0 k0 rfl kf_X11_53 dX11_add_173 ?_
      refine lv_iconst (v := 4) hx hb dX11_add_176 (by decide) ?_
      refine lv_iload hx hb dX11_add_177 (lv_at hl 4 rfl) ?_
      refine lv_imul hx hb dX11_add_179 ?_
      refine lv_topi (fun y38 ey38 => ?_)
      obtain rfl : y19 = y38 := ey19.trans ey38.symm
      refine lv_iload hx hb dX11_add_180 (lv_at hl 5 rfl) ?_
      refine lv_iadd hx hb dX11_add_182 ?_
      refine lv_topi (fun y39 ey39 => ?_)
      obtain rfl : y20 = y39 := ey20.trans ey39.symm
      refine lv_iconst (v := 1) hx hb dX11_add_183 (by decide) ?_
      refine st_78 hx hb hH mb37 kb37 (Rg_in ry20 (by decide)) dX11_add_184 (fun I40 H locs eI40 hH => ?_)
      replace hv := fnS hv eI40
      have oI : OkI L C I40 := by rw [eI40]; exact wr_78 oI kb37 (Rg_w (Rg_c (x := 1) (a := (1)) (b := (1)) (by decide)) (by decide))
      have sm : Sm C ms_X11_add (I, J, R) (I40, J, R) := by rw [eI40]; exact sm.stI kb37 (mC_arr (by decide) rfl)
      refine lv_iload hx hb dX11_add_185 (lv_at hl 3 rfl) ?_
      refine lv_bipush (v := 8) hx hb dX11_add_187 (by decide) ?_
      refine lv_idiv hx hb dX11_add_189 (by decide) ?_
      refine lv_topi (fun y41 ey41 => ?_)
      replace hv := fnS hv ey41
      obtain ⟨ty41, ry41⟩ := Rg_divx (a' := (0)) (b' := (33554431)) (rfl : x5_136.toInt = _) (by decide : Int32.toInt 8 = 8) r5_136 (Rg_c (x := 8) (a := (8)) (b := (8)) (by decide)) (by decide)
      rw [← ey41] at ty41 ry41
      refine lv_istore (lv' := [(5, .int y41), (0, .ref a0), (1, .int x1), (4, .int x4_136), (6, .int x6_136), (7, .int x7_136)]) hx hb dX11_add_190 hl (by decide) rfl (fun ls hl => ?_)
      obtain ⟨y42, ey42⟩ : ∃ y : Int32, y = x7_136 + 1 := ⟨_, rfl⟩
      replace hv := fnS hv ey42
      obtain ⟨ty42, ry42⟩ := Rg_addx (a' := (1)) (b' := (4)) (rfl : x7_136.toInt = _) (by decide : Int32.toInt 1 = 1) r17 (Rg_c (x := 1) (a := (1)) (b := (1)) (by decide)) (by decide)
      rw [← ey42] at ty42 ry42
      refine lv_iinc (v := y42) (lv' := [(7, .int y42), (5, .int y41), (0, .ref a0), (1, .int x1), (4, .int x4_136), (6, .int x6_136)]) hx hb dX11_add_192 hl (k := 5) rfl (by rw [ey42]; rfl) (by decide) rfl (fun ls hl => ?_)
      refine lv_goto (tgt := 136) hx hb dX11_add_195 (by decide) ?_
      exact ih_136 I40 _ _ _ x4_136 y41 x6_136 y42 (lp_up hn_136 ty42 (Rg_ltc r17 (by decide))) hH hv oI sm r1_136 (Rg_w r32 (by decide)) (Rg_w ry41 (by decide)) r6_136 (Rg_w ry42 (by decide)) (by rw [show (Int32.toInt y42).toNat = (Int32.toInt x7_136).toNat + 1 by rw [ty42]; have a1 := r17.1; omega]; exact dg_step g0_136 ty41) (by exact g1_136) (by exact (by rw [eI40]; exact XW.off (by rw [eI36]; exact XW.off g2_136 kb18 (by decide) (by decide)) kb37 (by decide) (by decide))) (by rw [(Eq.trans ((congrFun eI40 n8).trans (u2_ne (ne_role kn8 kb37 (by decide)))) (Eq.trans ((congrFun eI36 n8).trans (u2_ne (ne_role kn8 kb18 (by decide)))) rfl))]; exact g3_136) (lv_sub hl [2, 3, 4, 1, 5, 0] rfl)
  have L_37 : ∀ (n_37 : Nat) (I_37 : hI) (H : Heap) (locs : List Loc) (ls : Array Slot) (x4_37 : Int32) (x5_37 : Int32), (4 - x4_37.toInt).toNat < n_37 → Hp D cy L C b0 s s.heap I_37 J R H locs → TT0 = F_X11_add_37 a0 x1 x2 x3 n8 n_37 I_37 J R x4_37 x5_37 → OkI L C I_37 → Sm C ms_X11_add (I, J, R) (I_37, J, R) → Rg x1 (0) (19) → Rg x2 (0) (99) → Rg x3 (0) (2147483647) → Rg x4_37 (0) (4) → Rg x5_37 (0) (268435455) → (Int32.toInt x5_37 = (((Int32.toInt x3).toNat / 8 / 8 ^ (Int32.toInt x4_37).toNat : Nat) : Int)) → (∀ j, j < (Int32.toInt x4_37).toNat → (Int32.toInt x3).toNat / 8 / 8 ^ j % 8 ≠ 0) → (Int32.toInt x3 % 8 ≤ 6) → (XW L C I_37) → lv_has ls 8 [(0, .ref a0), (1, .int x1), (2, .int x2), (3, .int x3), (4, .int x4_37), (5, .int x5_37)] → W p l e (rmD 1) s m args below meth c H locs 0 0 Q (F0 m 37 ls []) := by
    intro n_37
    induction n_37 with
    | zero => intro I_37 H locs ls x4_37 x5_37 h; exact absurd h (Nat.not_lt_zero _)
    | succ n_37 ih_37 =>
      intro I_37 H locs ls x4_37 x5_37 hn_37 hH hv oI sm r1_37 r2_37 r3_37 r4_37 r5_37 g0_37 g1_37 g2_37 g3_37 hl
      replace hv := hv.trans F_X11_add_37_s
      unfold B_X11_add_37 at hv
      refine lv_iload hx hb dX11_add_37 (lv_at hl 5 rfl) ?_
      refine lv_if_le (tgt := 72) hx hb dX11_add_39 (by decide) (fun q43 => ?_) (fun q43 => ?_)
      rotate_left
      · replace hv := fnN hv q43
        have l68 := Rg_nle q43
        have r69 : Rg x5_37 (1) (268435455) := Rg_llt r5_37 (Rg_nle q43) (Rg_c (x := 0) (a := (0)) (b := (0)) (by decide)) (by decide)
        refine lv_iload hx hb dX11_add_42 (lv_at hl 5 rfl) ?_
        refine lv_bipush (v := 8) hx hb dX11_add_44 (by decide) ?_
        refine lv_irem hx hb dX11_add_46 (by decide) ?_
        refine lv_topi (fun y70 ey70 => ?_)
        replace hv := fnS hv ey70
        obtain ⟨ty70, ry70⟩ := Rg_remx (b' := (7)) (rfl : x5_37.toInt = _) (by decide : Int32.toInt 8 = 8) r69 (Rg_c (x := 8) (a := (8)) (b := (8)) (by decide)) (by decide)
        rw [← ey70] at ty70 ry70
        refine lv_if_eq (tgt := 56) hx hb dX11_add_47 (by decide) (fun q71 => ?_) (fun q71 => ?_)
        · replace hv := fnP hv q71
          have l72 := congrArg Int32.toInt q71
          have r73 : Rg y70 (0) (0) := Rg_both ry70 (Rg_eqv q71 (Rg_c (x := 0) (a := (0)) (b := (0)) (by decide))) (by decide)
          refine lv_bipush (v := (-3)) hx hb dX11_add_56 (by decide) ?_
          exact ret ((-3)) _ _ _ _ _ _ _ dX11_add_58 hH ⟨⟨oI, oR, sm⟩, rfl, rfl, (Rg_w (Rg_c (x := (-3)) (a := (-3)) (b := (-3)) (by decide)) (by decide)), (by exact g3_37), (hT.symm.trans hv)⟩
        replace hv := fnN hv q71
        have l74 := Rg_ne q71
        have r75 : Rg y70 (1) (7) := Rg_nelo ry70 (Rg_ne q71) (Rg_c (x := 0) (a := (0)) (b := (0)) (by decide)) (by decide)
        refine lv_iload hx hb dX11_add_50 (lv_at hl 4 rfl) ?_
        refine lv_iconst (v := 4) hx hb dX11_add_52 (by decide) ?_
        refine lv_icmp_ne (tgt := 59) hx hb dX11_add_53 (by decide) (fun q76 => ?_) (fun q76 => ?_)
        rotate_left
        · replace hv := fnP hv q76
          have l81 := congrArg Int32.toInt q76
          have r82 : Rg x4_37 (4) (4) := Rg_both r4_37 (Rg_eqv q76 (Rg_c (x := 4) (a := (4)) (b := (4)) (by decide))) (by decide)
          refine lv_bipush (v := (-3)) hx hb dX11_add_56 (by decide) ?_
          exact ret ((-3)) _ _ _ _ _ _ _ dX11_add_58 hH ⟨⟨oI, oR, sm⟩, rfl, rfl, (Rg_w (Rg_c (x := (-3)) (a := (-3)) (b := (-3)) (by decide)) (by decide)), (by exact g3_37), (hT.symm.trans hv)⟩
        replace hv := fnN hv q76
        have l77 := Rg_ne q76
        have r78 : Rg x4_37 (0) (3) := Rg_nehi r4_37 (Rg_ne q76) (Rg_c (x := 4) (a := (4)) (b := (4)) (by decide)) (by decide)
        refine lv_iload hx hb dX11_add_59 (lv_at hl 5 rfl) ?_
        refine lv_bipush (v := 8) hx hb dX11_add_61 (by decide) ?_
        refine lv_idiv hx hb dX11_add_63 (by decide) ?_
        refine lv_topi (fun y79 ey79 => ?_)
        replace hv := fnS hv ey79
        obtain ⟨ty79, ry79⟩ := Rg_divx (a' := (0)) (b' := (33554431)) (rfl : x5_37.toInt = _) (by decide : Int32.toInt 8 = 8) r69 (Rg_c (x := 8) (a := (8)) (b := (8)) (by decide)) (by decide)
        rw [← ey79] at ty79 ry79
        refine lv_istore (lv' := [(5, .int y79), (0, .ref a0), (1, .int x1), (2, .int x2), (3, .int x3), (4, .int x4_37)]) hx hb dX11_add_64 hl (by decide) rfl (fun ls hl => ?_)
        obtain ⟨y80, ey80⟩ : ∃ y : Int32, y = x4_37 + 1 := ⟨_, rfl⟩
        replace hv := fnS hv ey80
        obtain ⟨ty80, ry80⟩ := Rg_addx (a' := (1)) (b' := (4)) (rfl : x4_37.toInt = _) (by decide : Int32.toInt 1 = 1) r78 (Rg_c (x := 1) (a := (1)) (b := (1)) (by decide)) (by decide)
        rw [← ey80] at ty80 ry80
        refine lv_iinc (v := y80) (lv' := [(4, .int y80), (5, .int y79), (0, .ref a0), (1, .int x1), (2, .int x2), (3, .int x3)]) hx hb dX11_add_66 hl (k := 5) rfl (by rw [ey80]; rfl) (by decide) rfl (fun ls hl => ?_)
        refine lv_goto (tgt := 37) hx hb dX11_add_69 (by decide) ?_
        exact ih_37 I_37 _ _ _ y80 y79 (lp_up hn_37 ty80 (Rg_ltc r78 (by decide))) hH hv oI sm r1_37 r2_37 r3_37 (Rg_w ry80 (by decide)) (Rg_w ry79 (by decide)) (by rw [show (Int32.toInt y80).toNat = (Int32.toInt x4_37).toNat + 1 by rw [ty80]; have a1 := r78.1; omega]; exact dg_step g0_37 ty79) (by intro j hj; rw [show (Int32.toInt y80).toNat = (Int32.toInt x4_37).toNat + 1 by rw [ty80]; have a1 := r78.1; omega] at hj; rcases Nat.lt_or_eq_of_le (Nat.le_of_lt_succ hj) with h | h; exact g1_37 j h; subst h; have a1 := (Rg_w (a' := 1) (b' := 7) r75 (by decide)).1; have a2 := ty70; have a3 := g0_37; omega) (by exact g2_37) (by exact g3_37) (lv_sub hl [2, 3, 4, 5, 0, 1] rfl)
      replace hv := fnP hv q43
      have l44 := Rg_le q43
      have r45 : Rg x5_37 (0) (0) := Rg_ule r5_37 (Rg_le q43) (Rg_c (x := 0) (a := (0)) (b := (0)) (by decide)) (by decide)
      refine lv_aload_n hx hb dX11_add_72 rfl (lv_at hl 0 rfl) ?_
      refine gf_11_8 vn8 hx hb hts hown hH m0 k0 rfl kf_X11_29 dX11_add_73 ?_
      refine lv_iload_n hx hb dX11_add_76 rfl (lv_at hl 1 rfl) ?_
      refine ld_70 hx hb hH mn8 kn8 (Rg_in r1_37 (by decide)) dX11_add_77 ?_
      refine lv_topi (fun y46 ey46 => ?_)
      have ry46 : Rg y46 (0) (6) := by rw [ey46]; exact rd_70 oI mn8 kn8 (Rg_in r1_37 (by decide))
      replace hv := fnS hv ey46
      refine lv_bipush (v := 6) hx hb dX11_add_78 (by decide) ?_
      refine lv_icmp_ne (tgt := 86) hx hb dX11_add_80 (by decide) (fun q47 => ?_) (fun q47 => ?_)
      rotate_left
      · replace hv := fnP hv q47
        have l66 := congrArg Int32.toInt q47
        have r67 : Rg y46 (6) (6) := Rg_both ry46 (Rg_eqv q47 (Rg_c (x := 6) (a := (6)) (b := (6)) (by decide))) (by decide)
        refine lv_bipush (v := (-5)) hx hb dX11_add_83 (by decide) ?_
        exact ret ((-5)) _ _ _ _ _ _ _ dX11_add_85 hH ⟨⟨oI, oR, sm⟩, rfl, rfl, (Rg_w (Rg_c (x := (-5)) (a := (-5)) (b := (-5)) (by decide)) (by decide)), (by exact g3_37), (hT.symm.trans hv)⟩
      replace hv := fnN hv q47
      have l48 := Rg_ne q47
      have r49 : Rg y46 (0) (5) := Rg_nehi ry46 (Rg_ne q47) (Rg_c (x := 6) (a := (6)) (b := (6)) (by decide)) (by decide)
      refine lv_bipush (v := 6) hx hb dX11_add_86 (by decide) ?_
      refine lv_iload_n hx hb dX11_add_88 rfl (lv_at hl 1 rfl) ?_
      refine lv_imul hx hb dX11_add_89 ?_
      refine lv_topi (fun y50 ey50 => ?_)
      replace hv := fnS hv ey50
      obtain ⟨ty50, ry50⟩ := Rg_mulx (a' := (0)) (b' := (114)) (by decide : Int32.toInt 6 = 6) (rfl : x1.toInt = _) (Rg_c (x := 6) (a := (6)) (b := (6)) (by decide)) r1_37 (by decide)
      rw [← ey50] at ty50 ry50
      refine lv_aload_n hx hb dX11_add_90 rfl (lv_at hl 0 rfl) ?_
      refine gf_11_8 vn8 hx hb hts hown hH m0 k0 rfl kf_X11_29 dX11_add_91 ?_
      refine lv_iload_n hx hb dX11_add_94 rfl (lv_at hl 1 rfl) ?_
      refine ld_70 hx hb hH mn8 kn8 (Rg_in r1_37 (by decide)) dX11_add_95 ?_
      refine lv_topi (fun y51 ey51 => ?_)
      obtain rfl : y46 = y51 := ey46.trans ey51.symm
      refine lv_iadd hx hb dX11_add_96 ?_
      refine lv_topi (fun y52 ey52 => ?_)
      replace hv := fnS hv ey52
      obtain ⟨ty52, ry52⟩ := Rg_addx (a' := (0)) (b' := (119)) (rfl : y50.toInt = _) (rfl : y46.toInt = _) ry50 r49 (by decide)
      rw [← ey52] at ty52 ry52
      refine lv_istore (lv' := [(6, .int y52), (0, .ref a0), (1, .int x1), (2, .int x2), (3, .int x3), (4, .int x4_37), (5, .int x5_37)]) hx hb dX11_add_97 hl (by decide) rfl (fun ls hl => ?_)
      refine lv_aload_n hx hb dX11_add_99 rfl (lv_at hl 1 rfl) ?_
      obtain ⟨b53, mb53, vb53, kb53⟩ := rf_11_9 oR m0 k0
      replace hv := fnR hv vb53
      refine gf_11_9 vb53 hx hb hts hown hH m0 k0 rfl kf_X11_32 dX11_add_100 ?_
      refine lv_iload hx hb dX11_add_103 (lv_at hl 0 rfl) ?_
      refine lv_iload_n hx hb dX11_add_105 rfl (lv_at hl 3 rfl) ?_
      refine st_71 hx hb hH mb53 kb53 (Rg_in ry52 (by decide)) dX11_add_106 (fun I54 H locs eI54 hH => ?_)
      replace hv := fnS hv eI54
      have oI : OkI L C I54 := by rw [eI54]; exact wr_71 oI kb53 r2_37
      have sm : Sm C ms_X11_add (I, J, R) (I54, J, R) := by rw [eI54]; exact sm.stI kb53 (mC_arr (by decide) rfl)
      refine lv_aload_n hx hb dX11_add_107 rfl (lv_at hl 1 rfl) ?_
      obtain ⟨b55, mb55, vb55, kb55⟩ := rf_11_12 oR m0 k0
      replace hv := fnR hv vb55
      refine gf_11_12 vb55 hx hb hts hown hH m0 k0 rfl kf_X11_41 dX11_add_108 ?_
      refine lv_iload hx hb dX11_add_111 (lv_at hl 0 rfl) ?_
      refine lv_iload_n hx hb dX11_add_113 rfl (lv_at hl 4 rfl) ?_
      refine lv_bipush (v := 8) hx hb dX11_add_114 (by decide) ?_
      refine lv_irem hx hb dX11_add_116 (by decide) ?_
      refine lv_topi (fun y56 ey56 => ?_)
      replace hv := fnS hv ey56
      obtain ⟨ty56, ry56⟩ := Rg_remx (b' := (7)) (rfl : x3.toInt = _) (by decide : Int32.toInt 8 = 8) r3_37 (Rg_c (x := 8) (a := (8)) (b := (8)) (by decide)) (by decide)
      rw [← ey56] at ty56 ry56
      have r57 : Rg y56 (0) (6) := ⟨ry56.1, by rw [ty56]; exact g2_37⟩
      refine st_74 hx hb hH mb55 kb55 (Rg_in ry52 (by decide)) dX11_add_117 (fun I58 H locs eI58 hH => ?_)
      replace hv := fnS hv eI58
      have oI : OkI L C I58 := by rw [eI58]; exact wr_74 oI kb55 r57
      have sm : Sm C ms_X11_add (I, J, R) (I58, J, R) := by rw [eI58]; exact sm.stI kb55 (mC_arr (by decide) rfl)
      refine lv_aload_n hx hb dX11_add_118 rfl (lv_at hl 1 rfl) ?_
      obtain ⟨b59, mb59, vb59, kb59⟩ := rf_11_10 oR m0 k0
      replace hv := fnR hv vb59
      refine gf_11_10 vb59 hx hb hts hown hH m0 k0 rfl kf_X11_35 dX11_add_119 ?_
      refine lv_iload hx hb dX11_add_122 (lv_at hl 0 rfl) ?_
      refine lv_iload hx hb dX11_add_124 (lv_at hl 5 rfl) ?_
      refine st_72 hx hb hH mb59 kb59 (Rg_in ry52 (by decide)) dX11_add_126 (fun I60 H locs eI60 hH => ?_)
      replace hv := fnS hv eI60
      have oI : OkI L C I60 := by rw [eI60]; exact wr_72 oI kb59 r4_37
      have sm : Sm C ms_X11_add (I, J, R) (I60, J, R) := by rw [eI60]; exact sm.stI kb59 (mC_arr (by decide) rfl)
      refine lv_iload_n hx hb dX11_add_127 rfl (lv_at hl 4 rfl) ?_
      refine lv_bipush (v := 8) hx hb dX11_add_128 (by decide) ?_
      refine lv_idiv hx hb dX11_add_130 (by decide) ?_
      refine lv_topi (fun y61 ey61 => ?_)
      replace hv := fnS hv ey61
      obtain ⟨ty61, ry61⟩ := Rg_divx (a' := (0)) (b' := (268435455)) (rfl : x3.toInt = _) (by decide : Int32.toInt 8 = 8) r3_37 (Rg_c (x := 8) (a := (8)) (b := (8)) (by decide)) (by decide)
      rw [← ey61] at ty61 ry61
      refine lv_istore (lv' := [(5, .int y61), (6, .int y52), (0, .ref a0), (1, .int x1), (2, .int x2), (3, .int x3), (4, .int x4_37)]) hx hb dX11_add_131 hl (by decide) rfl (fun ls hl => ?_)
      refine lv_iconst (v := 0) hx hb dX11_add_133 (by decide) ?_
      refine lv_istore (lv' := [(7, .int 0), (5, .int y61), (6, .int y52), (0, .ref a0), (1, .int x1), (2, .int x2), (3, .int x3), (4, .int x4_37)]) hx hb dX11_add_134 hl (by decide) rfl (fun ls hl => ?_)
      exact L_136 ((4 - (0 : Int32).toInt).toNat + 1) I60 _ _ _ x4_37 y61 y52 0 (Nat.lt_succ_self _) hH hv oI sm r1_37 r4_37 ry61 ry52 (Rg_w (Rg_c (x := 0) (a := (0)) (b := (0)) (by decide)) (by decide)) (by rw [show (Int32.toInt 0).toNat = 0 by decide, Nat.pow_zero, Nat.div_one, ty61]; have a1 := r3_37.1; omega) (by exact g1_37) (by exact (by rw [eI60]; exact XW.off (by rw [eI58]; exact XW.off (by rw [eI54]; exact XW.off g3_37 kb53 (by decide) (by decide)) kb55 (by decide) (by decide)) kb59 (by decide) (by decide))) (by have f63 : I54 n8 (x1.toNatClampNeg) = I_37 n8 (x1.toNatClampNeg) := (by rw [eI54, u2_ne (ne_role kn8 kb53 (by decide))]); have f64 : I58 n8 (x1.toNatClampNeg) = I54 n8 (x1.toNatClampNeg) := (by rw [eI58, u2_ne (ne_role kn8 kb55 (by decide))]); have f65 : I60 n8 (x1.toNatClampNeg) = I58 n8 (x1.toNatClampNeg) := (by rw [eI60, u2_ne (ne_role kn8 kb59 (by decide))]); have f62 : y46 = I60 n8 (x1.toNatClampNeg) := ((ey46.trans f63.symm).trans f64.symm).trans f65.symm; rw [← f62]; exact r49.2) (lv_sub hl [3, 4, 7, 1, 2, 0] rfl)
  refine ca_X11_138 hx hb hml hown hts hH (c_X11_in ) hl.1 (by decide) (Nat.le_of_ble_eq_true rfl) ⟨Nat.zero_le _, Nat.zero_le _⟩ dX11_add_6 (fun y83 I83 J83 R83 H locs hp hH => ?_)
  obtain ⟨eI83, eJ83, eR83, ry83, hp83, hf83⟩ := hp
  obtain rfl : I = I83 := eI83.symm
  obtain rfl : J = J83 := eJ83.symm
  obtain rfl : R = R83 := eR83.symm
  replace hv := fnS hv hf83.symm
  rcases hp83 with ⟨rfl, hq83⟩ | ⟨rfl, hq83⟩
  rotate_left
  · replace hv := fnN hv (by decide)
    refine lv_if_eq (tgt := 25) hx hb dX11_add_9 (by decide) (fun q101 => ?_) (fun q101 => ?_)
    rotate_left
    · exact absurd rfl q101
    refine lv_bipush (v := (-3)) hx hb dX11_add_25 (by decide) ?_
    exact ret ((-3)) _ _ _ _ _ _ _ dX11_add_27 hH ⟨⟨oI, oR, sm⟩, rfl, rfl, (Rg_w (Rg_c (x := (-3)) (a := (-3)) (b := (-3)) (by decide)) (by decide)), (by exact hXW), (hT.symm.trans hv)⟩
  replace hv := fnP hv rfl
  have l84 : Int32.toInt 0 ≤ x2.toInt := in_cl hq83.1 (by decide)
  have r85 : Rg x2 (0) (2147483647) := Rg_lle (Rg_any x2) l84 (Rg_c (x := 0) (a := (0)) (b := (0)) (by decide)) (by decide)
  have l86 : x2.toInt ≤ Int32.toInt 99 := in_lc hq83.2 (by decide)
  have r87 : Rg x2 (0) (99) := Rg_ule r85 l86 (Rg_c (x := 99) (a := (99)) (b := (99)) (by decide)) (by decide)
  refine lv_if_eq (tgt := 25) hx hb dX11_add_9 (by decide) (fun q88 => ?_) (fun q88 => ?_)
  · exact absurd q88 (by decide)
  refine lv_iload_n hx hb dX11_add_12 rfl (lv_at hl 3 rfl) ?_
  refine lv_if_lt (tgt := 25) hx hb dX11_add_13 (by decide) (fun q89 => ?_) (fun q89 => ?_)
  · replace hv := fnP hv q89
    have l90 := Rg_lt q89
    have r91 : Rg x3 (-2147483648) (-1) := Rg_ult (Rg_any x3) (Rg_lt q89) (Rg_c (x := 0) (a := (0)) (b := (0)) (by decide)) (by decide)
    refine lv_bipush (v := (-3)) hx hb dX11_add_25 (by decide) ?_
    exact ret ((-3)) _ _ _ _ _ _ _ dX11_add_27 hH ⟨⟨oI, oR, sm⟩, rfl, rfl, (Rg_w (Rg_c (x := (-3)) (a := (-3)) (b := (-3)) (by decide)) (by decide)), (by exact hXW), (hT.symm.trans hv)⟩
  replace hv := fnN hv q89
  have l92 := Rg_nlt q89
  have r93 : Rg x3 (0) (2147483647) := Rg_lle (Rg_any x3) (Rg_nlt q89) (Rg_c (x := 0) (a := (0)) (b := (0)) (by decide)) (by decide)
  refine lv_iload_n hx hb dX11_add_16 rfl (lv_at hl 3 rfl) ?_
  refine lv_bipush (v := 8) hx hb dX11_add_17 (by decide) ?_
  refine lv_irem hx hb dX11_add_19 (by decide) ?_
  refine lv_topi (fun y94 ey94 => ?_)
  replace hv := fnS hv ey94
  obtain ⟨ty94, ry94⟩ := Rg_remx (b' := (7)) (rfl : x3.toInt = _) (by decide : Int32.toInt 8 = 8) r93 (Rg_c (x := 8) (a := (8)) (b := (8)) (by decide)) (by decide)
  rw [← ey94] at ty94 ry94
  refine lv_bipush (v := 7) hx hb dX11_add_20 (by decide) ?_
  refine lv_icmp_ne (tgt := 28) hx hb dX11_add_22 (by decide) (fun q95 => ?_) (fun q95 => ?_)
  rotate_left
  · replace hv := fnP hv q95
    have l99 := congrArg Int32.toInt q95
    have r100 : Rg y94 (7) (7) := Rg_both ry94 (Rg_eqv q95 (Rg_c (x := 7) (a := (7)) (b := (7)) (by decide))) (by decide)
    refine lv_bipush (v := (-3)) hx hb dX11_add_25 (by decide) ?_
    exact ret ((-3)) _ _ _ _ _ _ _ dX11_add_27 hH ⟨⟨oI, oR, sm⟩, rfl, rfl, (Rg_w (Rg_c (x := (-3)) (a := (-3)) (b := (-3)) (by decide)) (by decide)), (by exact hXW), (hT.symm.trans hv)⟩
  replace hv := fnN hv q95
  have l96 := Rg_ne q95
  have r97 : Rg y94 (0) (6) := Rg_nehi ry94 (Rg_ne q95) (Rg_c (x := 7) (a := (7)) (b := (7)) (by decide)) (by decide)
  refine lv_iconst (v := 0) hx hb dX11_add_28 (by decide) ?_
  refine lv_istore (lv' := [(4, .int 0), (0, .ref a0), (1, .int x1), (2, .int x2), (3, .int x3)]) hx hb dX11_add_29 hl (by decide) rfl (fun ls hl => ?_)
  refine lv_iload_n hx hb dX11_add_31 rfl (lv_at hl 4 rfl) ?_
  refine lv_bipush (v := 8) hx hb dX11_add_32 (by decide) ?_
  refine lv_idiv hx hb dX11_add_34 (by decide) ?_
  refine lv_topi (fun y98 ey98 => ?_)
  replace hv := fnS hv ey98
  obtain ⟨ty98, ry98⟩ := Rg_divx (a' := (0)) (b' := (268435455)) (rfl : x3.toInt = _) (by decide : Int32.toInt 8 = 8) r93 (Rg_c (x := 8) (a := (8)) (b := (8)) (by decide)) (by decide)
  rw [← ey98] at ty98 ry98
  refine lv_istore (lv' := [(5, .int y98), (4, .int 0), (0, .ref a0), (1, .int x1), (2, .int x2), (3, .int x3)]) hx hb dX11_add_35 hl (by decide) rfl (fun ls hl => ?_)
  exact L_37 ((4 - (0 : Int32).toInt).toNat + 1) I _ _ _ 0 y98 (Nat.lt_succ_self _) hH hv oI sm h1 r87 r93 (Rg_w (Rg_c (x := 0) (a := (0)) (b := (0)) (by decide)) (by decide)) ry98 (by rw [show (Int32.toInt 0).toNat = 0 by decide, Nat.pow_zero, Nat.div_one, ty98]; have a1 := r93.1; omega) (by intro j hj; rw [show (Int32.toInt 0).toNat = 0 by decide] at hj; omega) (by rw [← ty94]; exact r97.2) (by exact hXW) (lv_sub hl [2, 3, 4, 5, 1, 0] rfl)
noncomputable def F_X11_ask (a0 : Nat) (x1 : Int32) (x2 : Int32) (x3 : Int32) (I : hI) (J : hJ) (R : hR) : Int32 × hU :=
  nm (u2 I a0 0 (0 : Int32)) fun I1 => nm (F_X11_in (x1.toInt64) (0 : Int64) (9 : Int64)) fun y3 => (if y3 = (1 : Int32) then nm ((10 : Int32) + x1) fun y9 => nmU (F_X11_add a0 y9 x2 x3 I1 J R) fun y10 I10 _ _ => (y10, (I10, J, R)) else ((-3 : Int32), (I1, J, R)))
def ms_X11_ask : List Nat := [704, 4480, 4544, 4608, 4672, 4736, 4800, 4864, 4928, 4992]
set_option maxHeartbeats 4000000 in
set_option maxRecDepth 100000 in
theorem c_X11_ask {l : Launch} {D : va_G} {cy : Nat → ClassId} {L : List Nat} {C : Nat → Nat} {b0 : Nat} {I : hI} {J : hJ} {R : hR} {a0 : Nat} {x1 : Int32} {x2 : Int32} {x3 : Int32} (oI : OkI L C I) (oR : OkR L C R) (m0 : a0 ∈ L) (k0 : C a0 = 11) (hXW : XW L C I) (hU : Uq L C) : CI l yX11_ask cX11_ask 4 .int 2 D cy L C b0 [.ref a0, .int x1, .int x2, .int x3] (I, J, R) (fun r v => Ps L C ms_X11_ask (I, J, R) v ∧ v.2.1 = J ∧ v.2.2 = R ∧ Rg r (-5) (5) ∧ (XW L C v.1) ∧ F_X11_ask a0 x1 x2 x3 I J R = (r, v)) := by
  refine CI.mkI (plainFor_of_name (by decide)) (Nat.le_of_ble_eq_true rfl) ?_
  intro p e s m args below meth c ls Q hF ret hH hl
  obtain ⟨hx, hb, -, hml, hown, hts, -⟩ := hF
  have hl : lv_has ls 4 [(0, .ref a0), (1, .int x1), (2, .int x2), (3, .int x3)] := hl
  have hH : Hp D cy L C b0 s s.heap I J R s.heap [] := hH
  have sm : Sm C ms_X11_ask (I, J, R) (I, J, R) := Sm.rf
  obtain ⟨TT0, hT⟩ : ∃ TT0, TT0 = F_X11_ask a0 x1 x2 x3 I J R := ⟨_, rfl⟩
  have hv := hT
  unfold F_X11_ask at hv
  refine lv_aload_n hx hb dX11_ask_0 rfl (lv_at hl 0 rfl) ?_
  refine lv_iconst (v := 0) hx hb dX11_ask_1 (by decide) ?_
  refine pf_11_0 hx hb hts hown hH m0 k0 rfl kf_X11_131 dX11_ask_2 (fun I1 H locs eI1 hH => ?_)
  replace hv := fnS hv eI1
  have oI : OkI L C I1 := by rw [eI1]; exact wf_11_0 oI k0 (Rg_w (Rg_c (x := 0) (a := (0)) (b := (0)) (by decide)) (by decide))
  have sm : Sm C ms_X11_ask (I, J, R) (I1, J, R) := by rw [eI1]; exact sm.stI k0 (mC_obj (by decide) rfl)
  have f2 : 0 = I1 a0 0 := by rw [eI1, u2_at]
  refine lv_iload_n hx hb dX11_ask_5 rfl (lv_at hl 1 rfl) ?_
  refine lv_i2l (v := x1.toInt64) hx hb dX11_ask_6 rfl ?_
  refine lv_lconst (v := 0) hx hb dX11_ask_7 (by decide) ?_
  refine lv_ldc2 (v := 9) hx hb hown (hts _ kkl_X11_221) dX11_ask_8 ?_
  refine ca_X11_138 hx hb hml hown hts hH (c_X11_in ) hl.1 (by decide) (Nat.le_of_ble_eq_true rfl) ⟨Nat.zero_le _, Nat.zero_le _⟩ dX11_ask_11 (fun y3 I3 J3 R3 H locs hp hH => ?_)
  obtain ⟨eI3, eJ3, eR3, ry3, hp3, hf3⟩ := hp
  obtain rfl : I1 = I3 := eI3.symm
  obtain rfl : J = J3 := eJ3.symm
  obtain rfl : R = R3 := eR3.symm
  replace hv := fnS hv hf3.symm
  rcases hp3 with ⟨rfl, hq3⟩ | ⟨rfl, hq3⟩
  rotate_left
  · replace hv := fnN hv (by decide)
    refine lv_if_eq (tgt := 30) hx hb dX11_ask_14 (by decide) (fun q11 => ?_) (fun q11 => ?_)
    rotate_left
    · exact absurd rfl q11
    refine lv_bipush (v := (-3)) hx hb dX11_ask_30 (by decide) ?_
    exact ret ((-3)) _ _ _ _ _ _ _ dX11_ask_32 hH ⟨⟨oI, oR, sm⟩, rfl, rfl, (Rg_w (Rg_c (x := (-3)) (a := (-3)) (b := (-3)) (by decide)) (by decide)), (by exact (by rw [eI1]; exact XW.off hXW k0 (by decide) (by decide))), (hT.symm.trans hv)⟩
  replace hv := fnP hv rfl
  have l4 : Int32.toInt 0 ≤ x1.toInt := in_cl hq3.1 (by decide)
  have r5 : Rg x1 (0) (2147483647) := Rg_lle (Rg_any x1) l4 (Rg_c (x := 0) (a := (0)) (b := (0)) (by decide)) (by decide)
  have l6 : x1.toInt ≤ Int32.toInt 9 := in_lc hq3.2 (by decide)
  have r7 : Rg x1 (0) (9) := Rg_ule r5 l6 (Rg_c (x := 9) (a := (9)) (b := (9)) (by decide)) (by decide)
  refine lv_if_eq (tgt := 30) hx hb dX11_ask_14 (by decide) (fun q8 => ?_) (fun q8 => ?_)
  · exact absurd q8 (by decide)
  refine lv_aload_n hx hb dX11_ask_17 rfl (lv_at hl 0 rfl) ?_
  refine lv_bipush (v := 10) hx hb dX11_ask_18 (by decide) ?_
  refine lv_iload_n hx hb dX11_ask_20 rfl (lv_at hl 1 rfl) ?_
  refine lv_iadd hx hb dX11_ask_21 ?_
  refine lv_topi (fun y9 ey9 => ?_)
  replace hv := fnS hv ey9
  obtain ⟨ty9, ry9⟩ := Rg_addx (a' := (10)) (b' := (19)) (by decide : Int32.toInt 10 = 10) (rfl : x1.toInt = _) (Rg_c (x := 10) (a := (10)) (b := (10)) (by decide)) r7 (by decide)
  rw [← ey9] at ty9 ry9
  refine lv_iload_n hx hb dX11_ask_22 rfl (lv_at hl 2 rfl) ?_
  refine lv_iload_n hx hb dX11_ask_23 rfl (lv_at hl 3 rfl) ?_
  refine ca_X11_223 hx hb hml hown hts hH (c_X11_add oI oR m0 k0 (Rg_w ry9 (by decide)) (by exact (by rw [eI1]; exact XW.off hXW k0 (by decide) (by decide))) (by exact hU)) hl.1 m0 k0 rfl (by decide) (Nat.le_of_ble_eq_true rfl) ⟨Nat.zero_le _, Nat.zero_le _⟩ dX11_ask_24 (fun y10 I10 J10 R10 H locs hp hH => ?_)
  obtain ⟨⟨oI, -, sc10⟩, eJ10, eR10, ry10, hp10, hf10⟩ := hp
  obtain rfl : J = J10 := eJ10.symm
  obtain rfl : R = R10 := eR10.symm
  replace hv := fnC hv hf10
  have sm : Sm C ms_X11_ask (I, J, R) (I10, J, R) := sm.tr sc10 rfl
  refine lv_goto (tgt := 32) hx hb dX11_ask_27 (by decide) ?_
  exact ret (y10) _ _ _ _ _ _ _ dX11_ask_32 hH ⟨⟨oI, oR, sm⟩, rfl, rfl, ry10, (by exact hp10), (hT.symm.trans hv)⟩
noncomputable def F_X11_offer (a0 : Nat) (x1 : Int32) (x2 : Int32) (x3 : Int32) (I : hI) (J : hJ) (R : hR) : Int32 × hU :=
  nm (u2 I a0 0 (0 : Int32)) fun I1 => nm (F_X11_in (x1.toInt64) (0 : Int64) (9 : Int64)) fun y3 => (if y3 = (1 : Int32) then nmU (F_X11_add a0 x1 x2 x3 I1 J R) fun y9 I9 _ _ => (y9, (I9, J, R)) else ((-3 : Int32), (I1, J, R)))
def ms_X11_offer : List Nat := [704, 4480, 4544, 4608, 4672, 4736, 4800, 4864, 4928, 4992]
set_option maxHeartbeats 4000000 in
set_option maxRecDepth 100000 in
theorem c_X11_offer {l : Launch} {D : va_G} {cy : Nat → ClassId} {L : List Nat} {C : Nat → Nat} {b0 : Nat} {I : hI} {J : hJ} {R : hR} {a0 : Nat} {x1 : Int32} {x2 : Int32} {x3 : Int32} (oI : OkI L C I) (oR : OkR L C R) (m0 : a0 ∈ L) (k0 : C a0 = 11) (hXW : XW L C I) (hU : Uq L C) : CI l yX11_offer cX11_offer 4 .int 2 D cy L C b0 [.ref a0, .int x1, .int x2, .int x3] (I, J, R) (fun r v => Ps L C ms_X11_offer (I, J, R) v ∧ v.2.1 = J ∧ v.2.2 = R ∧ Rg r (-5) (5) ∧ (XW L C v.1) ∧ F_X11_offer a0 x1 x2 x3 I J R = (r, v)) := by
  refine CI.mkI (plainFor_of_name (by decide)) (Nat.le_of_ble_eq_true rfl) ?_
  intro p e s m args below meth c ls Q hF ret hH hl
  obtain ⟨hx, hb, -, hml, hown, hts, -⟩ := hF
  have hl : lv_has ls 4 [(0, .ref a0), (1, .int x1), (2, .int x2), (3, .int x3)] := hl
  have hH : Hp D cy L C b0 s s.heap I J R s.heap [] := hH
  have sm : Sm C ms_X11_offer (I, J, R) (I, J, R) := Sm.rf
  obtain ⟨TT0, hT⟩ : ∃ TT0, TT0 = F_X11_offer a0 x1 x2 x3 I J R := ⟨_, rfl⟩
  have hv := hT
  unfold F_X11_offer at hv
  refine lv_aload_n hx hb dX11_offer_0 rfl (lv_at hl 0 rfl) ?_
  refine lv_iconst (v := 0) hx hb dX11_offer_1 (by decide) ?_
  refine pf_11_0 hx hb hts hown hH m0 k0 rfl kf_X11_131 dX11_offer_2 (fun I1 H locs eI1 hH => ?_)
  replace hv := fnS hv eI1
  have oI : OkI L C I1 := by rw [eI1]; exact wf_11_0 oI k0 (Rg_w (Rg_c (x := 0) (a := (0)) (b := (0)) (by decide)) (by decide))
  have sm : Sm C ms_X11_offer (I, J, R) (I1, J, R) := by rw [eI1]; exact sm.stI k0 (mC_obj (by decide) rfl)
  have f2 : 0 = I1 a0 0 := by rw [eI1, u2_at]
  refine lv_iload_n hx hb dX11_offer_5 rfl (lv_at hl 1 rfl) ?_
  refine lv_i2l (v := x1.toInt64) hx hb dX11_offer_6 rfl ?_
  refine lv_lconst (v := 0) hx hb dX11_offer_7 (by decide) ?_
  refine lv_ldc2 (v := 9) hx hb hown (hts _ kkl_X11_221) dX11_offer_8 ?_
  refine ca_X11_138 hx hb hml hown hts hH (c_X11_in ) hl.1 (by decide) (Nat.le_of_ble_eq_true rfl) ⟨Nat.zero_le _, Nat.zero_le _⟩ dX11_offer_11 (fun y3 I3 J3 R3 H locs hp hH => ?_)
  obtain ⟨eI3, eJ3, eR3, ry3, hp3, hf3⟩ := hp
  obtain rfl : I1 = I3 := eI3.symm
  obtain rfl : J = J3 := eJ3.symm
  obtain rfl : R = R3 := eR3.symm
  replace hv := fnS hv hf3.symm
  rcases hp3 with ⟨rfl, hq3⟩ | ⟨rfl, hq3⟩
  rotate_left
  · replace hv := fnN hv (by decide)
    refine lv_if_eq (tgt := 27) hx hb dX11_offer_14 (by decide) (fun q10 => ?_) (fun q10 => ?_)
    rotate_left
    · exact absurd rfl q10
    refine lv_bipush (v := (-3)) hx hb dX11_offer_27 (by decide) ?_
    exact ret ((-3)) _ _ _ _ _ _ _ dX11_offer_29 hH ⟨⟨oI, oR, sm⟩, rfl, rfl, (Rg_w (Rg_c (x := (-3)) (a := (-3)) (b := (-3)) (by decide)) (by decide)), (by exact (by rw [eI1]; exact XW.off hXW k0 (by decide) (by decide))), (hT.symm.trans hv)⟩
  replace hv := fnP hv rfl
  have l4 : Int32.toInt 0 ≤ x1.toInt := in_cl hq3.1 (by decide)
  have r5 : Rg x1 (0) (2147483647) := Rg_lle (Rg_any x1) l4 (Rg_c (x := 0) (a := (0)) (b := (0)) (by decide)) (by decide)
  have l6 : x1.toInt ≤ Int32.toInt 9 := in_lc hq3.2 (by decide)
  have r7 : Rg x1 (0) (9) := Rg_ule r5 l6 (Rg_c (x := 9) (a := (9)) (b := (9)) (by decide)) (by decide)
  refine lv_if_eq (tgt := 27) hx hb dX11_offer_14 (by decide) (fun q8 => ?_) (fun q8 => ?_)
  · exact absurd q8 (by decide)
  refine lv_aload_n hx hb dX11_offer_17 rfl (lv_at hl 0 rfl) ?_
  refine lv_iload_n hx hb dX11_offer_18 rfl (lv_at hl 1 rfl) ?_
  refine lv_iload_n hx hb dX11_offer_19 rfl (lv_at hl 2 rfl) ?_
  refine lv_iload_n hx hb dX11_offer_20 rfl (lv_at hl 3 rfl) ?_
  refine ca_X11_223 hx hb hml hown hts hH (c_X11_add oI oR m0 k0 (Rg_w r7 (by decide)) (by exact (by rw [eI1]; exact XW.off hXW k0 (by decide) (by decide))) (by exact hU)) hl.1 m0 k0 rfl (by decide) (Nat.le_of_ble_eq_true rfl) ⟨Nat.zero_le _, Nat.zero_le _⟩ dX11_offer_21 (fun y9 I9 J9 R9 H locs hp hH => ?_)
  obtain ⟨⟨oI, -, sc9⟩, eJ9, eR9, ry9, hp9, hf9⟩ := hp
  obtain rfl : J = J9 := eJ9.symm
  obtain rfl : R = R9 := eR9.symm
  replace hv := fnC hv hf9
  have sm : Sm C ms_X11_offer (I, J, R) (I9, J, R) := sm.tr sc9 rfl
  refine lv_goto (tgt := 29) hx hb dX11_offer_24 (by decide) ?_
  exact ret (y9) _ _ _ _ _ _ _ dX11_offer_29 hH ⟨⟨oI, oR, sm⟩, rfl, rfl, ry9, (by exact hp9), (hT.symm.trans hv)⟩
noncomputable def F_X11_times_74 (a0 : Nat) (x1 : Int32) (x2 : Int32) (x3 : Int32) (x4 : Int32) (I_74 : hI) (J : hJ) (R : hR) : Int32 × hU :=
  ((-3 : Int32), (I_74, J, R))
noncomputable def F_X11_times (a0 : Nat) (x1 : Int32) (x2 : Int32) (x3 : Int32) (x4 : Int32) (I : hI) (J : hJ) (R : hR) : Int32 × hU :=
  nm (u2 I a0 0 (0 : Int32)) fun I1 => nm (F_X11_in (x1.toInt64) (0 : Int64) (9 : Int64)) fun y3 => (if y3 = (1 : Int32) then nm (F_X11_isMember a0 x1 x2 I1 J R) fun y9 => (if y9 = (1 : Int32) then nm ((6 : Int32) * x1) fun y12 => nm (y12 + x2) fun y13 => nm ((R a0 10).getD 0) fun b14 => nm (I1 b14 (Int32.toNatClampNeg y13)) fun y15 => nm (y15 - (1 : Int32)) fun y16 => nm (F_X11_in (x3.toInt64) (0 : Int64) (y16.toInt64)) fun y17 => (if y17 = (1 : Int32) then nm (F_X11_in (x4.toInt64) (-1000 : Int64) (1000 : Int64)) fun y25 => (if y25 = (1 : Int32) then nm ((R a0 16).getD 0) fun b31 => nm ((4 : Int32) * y13) fun y32 => nm (y32 + x3) fun y33 => nm (I1 b31 (Int32.toNatClampNeg y33)) fun y34 => nm (u2 I1 b31 (Int32.toNatClampNeg y33) x4) fun I37 => (y34, (I37, J, R)) else F_X11_times_74 a0 x1 x2 x3 x4 I1 J R) else F_X11_times_74 a0 x1 x2 x3 x4 I1 J R) else ((-2 : Int32), (I1, J, R))) else ((-3 : Int32), (I1, J, R)))
def ms_X11_times : List Nat := [704, 4992]
set_option maxHeartbeats 4000000 in
set_option maxRecDepth 100000 in
theorem c_X11_times {l : Launch} {D : va_G} {cy : Nat → ClassId} {L : List Nat} {C : Nat → Nat} {b0 : Nat} {I : hI} {J : hJ} {R : hR} {a0 : Nat} {x1 : Int32} {x2 : Int32} {x3 : Int32} {x4 : Int32} (oI : OkI L C I) (oR : OkR L C R) (m0 : a0 ∈ L) (k0 : C a0 = 11) : CI l yX11_times cX11_times 7 .int 2 D cy L C b0 [.ref a0, .int x1, .int x2, .int x3, .int x4] (I, J, R) (fun r v => Ps L C ms_X11_times (I, J, R) v ∧ v.2.1 = J ∧ v.2.2 = R ∧ Rg r (-1000) (1000) ∧ F_X11_times a0 x1 x2 x3 x4 I J R = (r, v)) := by
  refine CI.mkI (plainFor_of_name (by decide)) (Nat.le_of_ble_eq_true rfl) ?_
  intro p e s m args below meth c ls Q hF ret hH hl
  obtain ⟨hx, hb, -, hml, hown, hts, -⟩ := hF
  have hl : lv_has ls 7 [(0, .ref a0), (1, .int x1), (2, .int x2), (3, .int x3), (4, .int x4)] := hl
  have hH : Hp D cy L C b0 s s.heap I J R s.heap [] := hH
  have sm : Sm C ms_X11_times (I, J, R) (I, J, R) := Sm.rf
  obtain ⟨TT0, hT⟩ : ∃ TT0, TT0 = F_X11_times a0 x1 x2 x3 x4 I J R := ⟨_, rfl⟩
  have hv := hT
  unfold F_X11_times at hv
  refine lv_aload_n hx hb dX11_times_0 rfl (lv_at hl 0 rfl) ?_
  refine lv_iconst (v := 0) hx hb dX11_times_1 (by decide) ?_
  refine pf_11_0 hx hb hts hown hH m0 k0 rfl kf_X11_131 dX11_times_2 (fun I1 H locs eI1 hH => ?_)
  replace hv := fnS hv eI1
  have oI : OkI L C I1 := by rw [eI1]; exact wf_11_0 oI k0 (Rg_w (Rg_c (x := 0) (a := (0)) (b := (0)) (by decide)) (by decide))
  have sm : Sm C ms_X11_times (I, J, R) (I1, J, R) := by rw [eI1]; exact sm.stI k0 (mC_obj (by decide) rfl)
  have f2 : 0 = I1 a0 0 := by rw [eI1, u2_at]
  refine lv_iload_n hx hb dX11_times_5 rfl (lv_at hl 1 rfl) ?_
  refine lv_i2l (v := x1.toInt64) hx hb dX11_times_6 rfl ?_
  refine lv_lconst (v := 0) hx hb dX11_times_7 (by decide) ?_
  refine lv_ldc2 (v := 9) hx hb hown (hts _ kkl_X11_221) dX11_times_8 ?_
  have L_74 : ∀ (I_74 : hI) (H : Heap) (locs : List Loc) (ls : Array Slot), Hp D cy L C b0 s s.heap I_74 J R H locs → TT0 = F_X11_times_74 a0 x1 x2 x3 x4 I_74 J R → OkI L C I_74 → Sm C ms_X11_times (I, J, R) (I_74, J, R) → lv_has ls 7 [] → W p l e (rmD 2) s m args below meth c H locs 0 0 Q (F0 m 74 ls []) := by
    intro I_74 H locs ls hH hv oI sm hl
    unfold F_X11_times_74 at hv
    refine lv_bipush (v := (-3)) hx hb dX11_times_74 (by decide) ?_
    exact ret ((-3)) _ _ _ _ _ _ _ dX11_times_76 hH ⟨⟨oI, oR, sm⟩, rfl, rfl, (Rg_w (Rg_c (x := (-3)) (a := (-3)) (b := (-3)) (by decide)) (by decide)), (hT.symm.trans hv)⟩
  refine ca_X11_138 hx hb hml hown hts hH (c_X11_in ) hl.1 (by decide) (Nat.le_of_ble_eq_true rfl) ⟨Nat.zero_le _, Nat.zero_le _⟩ dX11_times_11 (fun y3 I3 J3 R3 H locs hp hH => ?_)
  obtain ⟨eI3, eJ3, eR3, ry3, hp3, hf3⟩ := hp
  obtain rfl : I1 = I3 := eI3.symm
  obtain rfl : J = J3 := eJ3.symm
  obtain rfl : R = R3 := eR3.symm
  replace hv := fnS hv hf3.symm
  rcases hp3 with ⟨rfl, hq3⟩ | ⟨rfl, hq3⟩
  rotate_left
  · replace hv := fnN hv (by decide)
    refine lv_if_ne (tgt := 20) hx hb dX11_times_14 (by decide) (fun q41 => ?_) (fun q41 => ?_)
    · exact absurd rfl q41
    refine lv_bipush (v := (-3)) hx hb dX11_times_17 (by decide) ?_
    exact ret ((-3)) _ _ _ _ _ _ _ dX11_times_19 hH ⟨⟨oI, oR, sm⟩, rfl, rfl, (Rg_w (Rg_c (x := (-3)) (a := (-3)) (b := (-3)) (by decide)) (by decide)), (hT.symm.trans hv)⟩
  replace hv := fnP hv rfl
  have l4 : Int32.toInt 0 ≤ x1.toInt := in_cl hq3.1 (by decide)
  have r5 : Rg x1 (0) (2147483647) := Rg_lle (Rg_any x1) l4 (Rg_c (x := 0) (a := (0)) (b := (0)) (by decide)) (by decide)
  have l6 : x1.toInt ≤ Int32.toInt 9 := in_lc hq3.2 (by decide)
  have r7 : Rg x1 (0) (9) := Rg_ule r5 l6 (Rg_c (x := 9) (a := (9)) (b := (9)) (by decide)) (by decide)
  refine lv_if_ne (tgt := 20) hx hb dX11_times_14 (by decide) (fun q8 => ?_) (fun q8 => ?_)
  rotate_left
  · exact absurd q8 (by decide)
  refine lv_aload_n hx hb dX11_times_20 rfl (lv_at hl 0 rfl) ?_
  refine lv_iload_n hx hb dX11_times_21 rfl (lv_at hl 1 rfl) ?_
  refine lv_iload_n hx hb dX11_times_22 rfl (lv_at hl 2 rfl) ?_
  refine ca_X11_235 hx hb hml hown hts hH (c_X11_isMember oI oR m0 k0 (Rg_w r7 (by decide))) hl.1 m0 k0 rfl (by decide) (Nat.le_of_ble_eq_true rfl) ⟨Nat.zero_le _, Nat.zero_le _⟩ dX11_times_23 (fun y9 I9 J9 R9 H locs hp hH => ?_)
  obtain ⟨eI9, eJ9, eR9, ry9, hp9, hf9⟩ := hp
  obtain rfl : I1 = I9 := eI9.symm
  obtain rfl : J = J9 := eJ9.symm
  obtain rfl : R = R9 := eR9.symm
  replace hv := fnS hv hf9.symm
  rcases hp9 with ⟨rfl, hq9⟩ | rfl
  rotate_left
  · replace hv := fnN hv (by decide)
    refine lv_if_ne (tgt := 32) hx hb dX11_times_26 (by decide) (fun q40 => ?_) (fun q40 => ?_)
    · exact absurd rfl q40
    refine lv_bipush (v := (-2)) hx hb dX11_times_29 (by decide) ?_
    exact ret ((-2)) _ _ _ _ _ _ _ dX11_times_31 hH ⟨⟨oI, oR, sm⟩, rfl, rfl, (Rg_w (Rg_c (x := (-2)) (a := (-2)) (b := (-2)) (by decide)) (by decide)), (hT.symm.trans hv)⟩
  replace hv := fnP hv rfl
  have r10 : Rg x2 (0) (5) := Rg_both (Rg_any x2) ⟨hq9.1, hq9.2⟩ (by decide)
  refine lv_if_ne (tgt := 32) hx hb dX11_times_26 (by decide) (fun q11 => ?_) (fun q11 => ?_)
  rotate_left
  · exact absurd q11 (by decide)
  refine lv_bipush (v := 6) hx hb dX11_times_32 (by decide) ?_
  refine lv_iload_n hx hb dX11_times_34 rfl (lv_at hl 1 rfl) ?_
  refine lv_imul hx hb dX11_times_35 ?_
  refine lv_topi (fun y12 ey12 => ?_)
  replace hv := fnS hv ey12
  obtain ⟨ty12, ry12⟩ := Rg_mulx (a' := (0)) (b' := (54)) (by decide : Int32.toInt 6 = 6) (rfl : x1.toInt = _) (Rg_c (x := 6) (a := (6)) (b := (6)) (by decide)) r7 (by decide)
  rw [← ey12] at ty12 ry12
  refine lv_iload_n hx hb dX11_times_36 rfl (lv_at hl 2 rfl) ?_
  refine lv_iadd hx hb dX11_times_37 ?_
  refine lv_topi (fun y13 ey13 => ?_)
  replace hv := fnS hv ey13
  obtain ⟨ty13, ry13⟩ := Rg_addx (a' := (0)) (b' := (59)) (rfl : y12.toInt = _) (rfl : x2.toInt = _) ry12 r10 (by decide)
  rw [← ey13] at ty13 ry13
  refine lv_istore (lv' := [(5, .int y13), (0, .ref a0), (1, .int x1), (2, .int x2), (3, .int x3), (4, .int x4)]) hx hb dX11_times_38 hl (by decide) rfl (fun ls hl => ?_)
  refine lv_iload_n hx hb dX11_times_40 rfl (lv_at hl 4 rfl) ?_
  refine lv_i2l (v := x3.toInt64) hx hb dX11_times_41 rfl ?_
  refine lv_lconst (v := 0) hx hb dX11_times_42 (by decide) ?_
  refine lv_aload_n hx hb dX11_times_43 rfl (lv_at hl 1 rfl) ?_
  obtain ⟨b14, mb14, vb14, kb14⟩ := rf_11_10 oR m0 k0
  replace hv := fnR hv vb14
  refine gf_11_10 vb14 hx hb hts hown hH m0 k0 rfl kf_X11_35 dX11_times_44 ?_
  refine lv_iload hx hb dX11_times_47 (lv_at hl 0 rfl) ?_
  refine ld_72 hx hb hH mb14 kb14 (Rg_in ry13 (by decide)) dX11_times_49 ?_
  refine lv_topi (fun y15 ey15 => ?_)
  have ry15 : Rg y15 (0) (4) := by rw [ey15]; exact rd_72 oI mb14 kb14 (Rg_in ry13 (by decide))
  replace hv := fnS hv ey15
  refine lv_iconst (v := 1) hx hb dX11_times_50 (by decide) ?_
  refine lv_isub hx hb dX11_times_51 ?_
  refine lv_topi (fun y16 ey16 => ?_)
  replace hv := fnS hv ey16
  obtain ⟨ty16, ry16⟩ := Rg_subx (a' := (-1)) (b' := (3)) (rfl : y15.toInt = _) (by decide : Int32.toInt 1 = 1) ry15 (Rg_c (x := 1) (a := (1)) (b := (1)) (by decide)) (by decide)
  rw [← ey16] at ty16 ry16
  refine lv_i2l (v := y16.toInt64) hx hb dX11_times_52 rfl ?_
  refine ca_X11_138 hx hb hml hown hts hH (c_X11_in ) hl.1 (by decide) (Nat.le_of_ble_eq_true rfl) ⟨Nat.zero_le _, Nat.zero_le _⟩ dX11_times_53 (fun y17 I17 J17 R17 H locs hp hH => ?_)
  obtain ⟨eI17, eJ17, eR17, ry17, hp17, hf17⟩ := hp
  obtain rfl : I1 = I17 := eI17.symm
  obtain rfl : J = J17 := eJ17.symm
  obtain rfl : R = R17 := eR17.symm
  replace hv := fnS hv hf17.symm
  rcases hp17 with ⟨rfl, hq17⟩ | ⟨rfl, hq17⟩
  rotate_left
  · replace hv := fnN hv (by decide)
    refine lv_if_eq (tgt := 74) hx hb dX11_times_56 (by decide) (fun q39 => ?_) (fun q39 => ?_)
    · exact L_74 I1 _ _ _ hH hv oI sm (lv_sub hl [] rfl)
    exact absurd rfl q39
  replace hv := fnP hv rfl
  have l18 : Int32.toInt 0 ≤ x3.toInt := in_cl hq17.1 (by decide)
  have r19 : Rg x3 (0) (2147483647) := Rg_lle (Rg_any x3) l18 (Rg_c (x := 0) (a := (0)) (b := (0)) (by decide)) (by decide)
  have l20 := in_ll hq17.2
  have r21 : Rg x3 (0) (3) := Rg_ule r19 l20 ry16 (by decide)
  have r22 : Rg y16 (0) (3) := Rg_lle ry16 l20 r19 (by decide)
  have r23 : Rg y15 (1) (4) := by have a1 := r22.1; have a2 := r22.2; have a3 := ry15.1; have a4 := ry15.2; exact ⟨by omega, by omega⟩
  refine lv_if_eq (tgt := 74) hx hb dX11_times_56 (by decide) (fun q24 => ?_) (fun q24 => ?_)
  · exact absurd q24 (by decide)
  refine lv_iload hx hb dX11_times_59 (lv_at hl 5 rfl) ?_
  refine lv_i2l (v := x4.toInt64) hx hb dX11_times_61 rfl ?_
  refine lv_ldc2 (v := (-1000)) hx hb hown (hts _ kkl_X11_231) dX11_times_62 ?_
  refine lv_ldc2 (v := 1000) hx hb hown (hts _ kkl_X11_233) dX11_times_65 ?_
  refine ca_X11_138 hx hb hml hown hts hH (c_X11_in ) hl.1 (by decide) (Nat.le_of_ble_eq_true rfl) ⟨Nat.zero_le _, Nat.zero_le _⟩ dX11_times_68 (fun y25 I25 J25 R25 H locs hp hH => ?_)
  obtain ⟨eI25, eJ25, eR25, ry25, hp25, hf25⟩ := hp
  obtain rfl : I1 = I25 := eI25.symm
  obtain rfl : J = J25 := eJ25.symm
  obtain rfl : R = R25 := eR25.symm
  replace hv := fnS hv hf25.symm
  rcases hp25 with ⟨rfl, hq25⟩ | ⟨rfl, hq25⟩
  rotate_left
  · replace hv := fnN hv (by decide)
    refine lv_if_ne (tgt := 77) hx hb dX11_times_71 (by decide) (fun q38 => ?_) (fun q38 => ?_)
    · exact absurd rfl q38
    exact L_74 I1 _ _ _ hH hv oI sm (lv_sub hl [] rfl)
  replace hv := fnP hv rfl
  have l26 : Int32.toInt (-1000) ≤ x4.toInt := in_cl hq25.1 (by decide)
  have r27 : Rg x4 (-1000) (2147483647) := Rg_lle (Rg_any x4) l26 (Rg_c (x := (-1000)) (a := (-1000)) (b := (-1000)) (by decide)) (by decide)
  have l28 : x4.toInt ≤ Int32.toInt 1000 := in_lc hq25.2 (by decide)
  have r29 : Rg x4 (-1000) (1000) := Rg_ule r27 l28 (Rg_c (x := 1000) (a := (1000)) (b := (1000)) (by decide)) (by decide)
  refine lv_if_ne (tgt := 77) hx hb dX11_times_71 (by decide) (fun q30 => ?_) (fun q30 => ?_)
  rotate_left
  · exact absurd q30 (by decide)
  refine lv_aload_n hx hb dX11_times_77 rfl (lv_at hl 1 rfl) ?_
  obtain ⟨b31, mb31, vb31, kb31⟩ := rf_11_16 oR m0 k0
  replace hv := fnR hv vb31
  refine gf_11_16 vb31 hx hb hts hown hH m0 k0 rfl kf_X11_53 dX11_times_78 ?_
  refine lv_iconst (v := 4) hx hb dX11_times_81 (by decide) ?_
  refine lv_iload hx hb dX11_times_82 (lv_at hl 0 rfl) ?_
  refine lv_imul hx hb dX11_times_84 ?_
  refine lv_topi (fun y32 ey32 => ?_)
  replace hv := fnS hv ey32
  obtain ⟨ty32, ry32⟩ := Rg_mulx (a' := (0)) (b' := (236)) (by decide : Int32.toInt 4 = 4) (rfl : y13.toInt = _) (Rg_c (x := 4) (a := (4)) (b := (4)) (by decide)) ry13 (by decide)
  rw [← ey32] at ty32 ry32
  refine lv_iload_n hx hb dX11_times_85 rfl (lv_at hl 4 rfl) ?_
  refine lv_iadd hx hb dX11_times_86 ?_
  refine lv_topi (fun y33 ey33 => ?_)
  replace hv := fnS hv ey33
  obtain ⟨ty33, ry33⟩ := Rg_addx (a' := (0)) (b' := (239)) (rfl : y32.toInt = _) (rfl : x3.toInt = _) ry32 r21 (by decide)
  rw [← ey33] at ty33 ry33
  refine ld_78 hx hb hH mb31 kb31 (Rg_in ry33 (by decide)) dX11_times_87 ?_
  refine lv_topi (fun y34 ey34 => ?_)
  have ry34 : Rg y34 (-1000) (1000) := by rw [ey34]; exact rd_78 oI mb31 kb31 (Rg_in ry33 (by decide))
  replace hv := fnS hv ey34
  refine lv_istore (lv' := [(6, .int y34), (5, .int y13), (0, .ref a0), (1, .int x1), (2, .int x2), (3, .int x3), (4, .int x4)]) hx hb dX11_times_88 hl (by decide) rfl (fun ls hl => ?_)
  refine lv_aload_n hx hb dX11_times_90 rfl (lv_at hl 2 rfl) ?_
  refine gf_11_16 vb31 hx hb hts hown hH m0 k0 rfl kf_X11_53 dX11_times_91 ?_
  refine lv_iconst (v := 4) hx hb dX11_times_94 (by decide) ?_
  refine lv_iload hx hb dX11_times_95 (lv_at hl 1 rfl) ?_
  refine lv_imul hx hb dX11_times_97 ?_
  refine lv_topi (fun y35 ey35 => ?_)
  obtain rfl : y32 = y35 := ey32.trans ey35.symm
  refine lv_iload_n hx hb dX11_times_98 rfl (lv_at hl 5 rfl) ?_
  refine lv_iadd hx hb dX11_times_99 ?_
  refine lv_topi (fun y36 ey36 => ?_)
  obtain rfl : y33 = y36 := ey33.trans ey36.symm
  refine lv_iload hx hb dX11_times_100 (lv_at hl 6 rfl) ?_
  refine st_78 hx hb hH mb31 kb31 (Rg_in ry33 (by decide)) dX11_times_102 (fun I37 H locs eI37 hH => ?_)
  replace hv := fnS hv eI37
  have oI : OkI L C I37 := by rw [eI37]; exact wr_78 oI kb31 r29
  have sm : Sm C ms_X11_times (I, J, R) (I37, J, R) := by rw [eI37]; exact sm.stI kb31 (mC_arr (by decide) rfl)
  refine lv_iload hx hb dX11_times_103 (lv_at hl 0 rfl) ?_
  exact ret (y34) _ _ _ _ _ _ _ dX11_times_105 hH ⟨⟨oI, oR, sm⟩, rfl, rfl, ry34, (hT.symm.trans hv)⟩
noncomputable def F_X11_strip_32 (a0 : Nat) (x1 : Int32) (x2 : Int32) (I_32 : hI) (J : hJ) (R : hR) (xs0_32 : Int32) : Int32 × hU :=
  nm ((R a0 8).getD 0) fun b3 => nm (I_32 b3 (Int32.toNatClampNeg xs0_32)) fun y4 => nm (u2 I_32 b3 (Int32.toNatClampNeg xs0_32) (0 : Int32)) fun I5 => (y4, (I5, J, R))
noncomputable def F_X11_strip (a0 : Nat) (x1 : Int32) (x2 : Int32) (I : hI) (J : hJ) (R : hR) : Int32 × hU :=
  nm (u2 I a0 0 (0 : Int32)) fun I1 => nm (F_X11_in (x2.toInt64) (0 : Int64) (9 : Int64)) fun y6 => (if y6 = (1 : Int32) then (if x1 = (0 : Int32) then F_X11_strip_32 a0 x1 x2 I1 J R x2 else nm ((10 : Int32) + x2) fun y15 => F_X11_strip_32 a0 x1 x2 I1 J R y15) else ((-3 : Int32), (I1, J, R)))
def ms_X11_strip : List Nat := [704, 4480]
set_option maxHeartbeats 4000000 in
set_option maxRecDepth 100000 in
theorem c_X11_strip {l : Launch} {D : va_G} {cy : Nat → ClassId} {L : List Nat} {C : Nat → Nat} {b0 : Nat} {I : hI} {J : hJ} {R : hR} {a0 : Nat} {x1 : Int32} {x2 : Int32} (oI : OkI L C I) (oR : OkR L C R) (m0 : a0 ∈ L) (k0 : C a0 = 11) (h1 : Rg x1 (0) (1)) : CI l yX11_strip cX11_strip 5 .int 1 D cy L C b0 [.ref a0, .int x1, .int x2] (I, J, R) (fun r v => Ps L C ms_X11_strip (I, J, R) v ∧ v.2.1 = J ∧ v.2.2 = R ∧ Rg r (-3) (6) ∧ F_X11_strip a0 x1 x2 I J R = (r, v)) := by
  refine CI.mkI (plainFor_of_name (by decide)) (Nat.le_of_ble_eq_true rfl) ?_
  intro p e s m args below meth c ls Q hF ret hH hl
  obtain ⟨hx, hb, -, hml, hown, hts, -⟩ := hF
  have hl : lv_has ls 5 [(0, .ref a0), (1, .int x1), (2, .int x2)] := hl
  have hH : Hp D cy L C b0 s s.heap I J R s.heap [] := hH
  have sm : Sm C ms_X11_strip (I, J, R) (I, J, R) := Sm.rf
  obtain ⟨TT0, hT⟩ : ∃ TT0, TT0 = F_X11_strip a0 x1 x2 I J R := ⟨_, rfl⟩
  have hv := hT
  unfold F_X11_strip at hv
  refine lv_aload_n hx hb dX11_strip_0 rfl (lv_at hl 0 rfl) ?_
  refine lv_iconst (v := 0) hx hb dX11_strip_1 (by decide) ?_
  refine pf_11_0 hx hb hts hown hH m0 k0 rfl kf_X11_131 dX11_strip_2 (fun I1 H locs eI1 hH => ?_)
  replace hv := fnS hv eI1
  have oI : OkI L C I1 := by rw [eI1]; exact wf_11_0 oI k0 (Rg_w (Rg_c (x := 0) (a := (0)) (b := (0)) (by decide)) (by decide))
  have sm : Sm C ms_X11_strip (I, J, R) (I1, J, R) := by rw [eI1]; exact sm.stI k0 (mC_obj (by decide) rfl)
  have f2 : 0 = I1 a0 0 := by rw [eI1, u2_at]
  refine lv_iload_n hx hb dX11_strip_5 rfl (lv_at hl 2 rfl) ?_
  refine lv_i2l (v := x2.toInt64) hx hb dX11_strip_6 rfl ?_
  refine lv_lconst (v := 0) hx hb dX11_strip_7 (by decide) ?_
  refine lv_ldc2 (v := 9) hx hb hown (hts _ kkl_X11_221) dX11_strip_8 ?_
  have L_32 : ∀ (I_32 : hI) (H : Heap) (locs : List Loc) (ls : Array Slot) (xs0_32 : Int32), Hp D cy L C b0 s s.heap I_32 J R H locs → TT0 = F_X11_strip_32 a0 x1 x2 I_32 J R xs0_32 → OkI L C I_32 → Sm C ms_X11_strip (I, J, R) (I_32, J, R) → Rg xs0_32 (0) (19) → lv_has ls 5 [(0, .ref a0)] → W p l e (rmD 1) s m args below meth c H locs 0 0 Q (F0 m 32 ls [.int xs0_32]) := by
    intro I_32 H locs ls xs0_32 hH hv oI sm rs0_32 hl
    unfold F_X11_strip_32 at hv
    refine lv_istore_n (lv' := [(3, .int xs0_32), (0, .ref a0)]) hx hb dX11_strip_32 rfl hl (by decide) rfl (fun ls hl => ?_)
    refine lv_aload_n hx hb dX11_strip_33 rfl (lv_at hl 1 rfl) ?_
    obtain ⟨b3, mb3, vb3, kb3⟩ := rf_11_8 oR m0 k0
    replace hv := fnR hv vb3
    refine gf_11_8 vb3 hx hb hts hown hH m0 k0 rfl kf_X11_29 dX11_strip_34 ?_
    refine lv_iload_n hx hb dX11_strip_37 rfl (lv_at hl 0 rfl) ?_
    refine ld_70 hx hb hH mb3 kb3 (Rg_in rs0_32 (by decide)) dX11_strip_38 ?_
    refine lv_topi (fun y4 ey4 => ?_)
    have ry4 : Rg y4 (0) (6) := by rw [ey4]; exact rd_70 oI mb3 kb3 (Rg_in rs0_32 (by decide))
    replace hv := fnS hv ey4
    refine lv_istore (lv' := [(4, .int y4), (3, .int xs0_32), (0, .ref a0)]) hx hb dX11_strip_39 hl (by decide) rfl (fun ls hl => ?_)
    refine lv_aload_n hx hb dX11_strip_41 rfl (lv_at hl 2 rfl) ?_
    refine gf_11_8 vb3 hx hb hts hown hH m0 k0 rfl kf_X11_29 dX11_strip_42 ?_
    refine lv_iload_n hx hb dX11_strip_45 rfl (lv_at hl 1 rfl) ?_
    refine lv_iconst (v := 0) hx hb dX11_strip_46 (by decide) ?_
    refine st_70 hx hb hH mb3 kb3 (Rg_in rs0_32 (by decide)) dX11_strip_47 (fun I5 H locs eI5 hH => ?_)
    replace hv := fnS hv eI5
    have oI : OkI L C I5 := by rw [eI5]; exact wr_70 oI kb3 (Rg_w (Rg_c (x := 0) (a := (0)) (b := (0)) (by decide)) (by decide))
    have sm : Sm C ms_X11_strip (I, J, R) (I5, J, R) := by rw [eI5]; exact sm.stI kb3 (mC_arr (by decide) rfl)
    refine lv_iload hx hb dX11_strip_48 (lv_at hl 0 rfl) ?_
    exact ret (y4) _ _ _ _ _ _ _ dX11_strip_50 hH ⟨⟨oI, oR, sm⟩, rfl, rfl, (Rg_w ry4 (by decide)), (hT.symm.trans hv)⟩
  refine ca_X11_138 hx hb hml hown hts hH (c_X11_in ) hl.1 (by decide) (Nat.le_of_ble_eq_true rfl) ⟨Nat.zero_le _, Nat.zero_le _⟩ dX11_strip_11 (fun y6 I6 J6 R6 H locs hp hH => ?_)
  obtain ⟨eI6, eJ6, eR6, ry6, hp6, hf6⟩ := hp
  obtain rfl : I1 = I6 := eI6.symm
  obtain rfl : J = J6 := eJ6.symm
  obtain rfl : R = R6 := eR6.symm
  replace hv := fnS hv hf6.symm
  rcases hp6 with ⟨rfl, hq6⟩ | ⟨rfl, hq6⟩
  rotate_left
  · replace hv := fnN hv (by decide)
    refine lv_if_ne (tgt := 20) hx hb dX11_strip_14 (by decide) (fun q16 => ?_) (fun q16 => ?_)
    · exact absurd rfl q16
    refine lv_bipush (v := (-3)) hx hb dX11_strip_17 (by decide) ?_
    exact ret ((-3)) _ _ _ _ _ _ _ dX11_strip_19 hH ⟨⟨oI, oR, sm⟩, rfl, rfl, (Rg_w (Rg_c (x := (-3)) (a := (-3)) (b := (-3)) (by decide)) (by decide)), (hT.symm.trans hv)⟩
  replace hv := fnP hv rfl
  have l7 : Int32.toInt 0 ≤ x2.toInt := in_cl hq6.1 (by decide)
  have r8 : Rg x2 (0) (2147483647) := Rg_lle (Rg_any x2) l7 (Rg_c (x := 0) (a := (0)) (b := (0)) (by decide)) (by decide)
  have l9 : x2.toInt ≤ Int32.toInt 9 := in_lc hq6.2 (by decide)
  have r10 : Rg x2 (0) (9) := Rg_ule r8 l9 (Rg_c (x := 9) (a := (9)) (b := (9)) (by decide)) (by decide)
  refine lv_if_ne (tgt := 20) hx hb dX11_strip_14 (by decide) (fun q11 => ?_) (fun q11 => ?_)
  rotate_left
  · exact absurd q11 (by decide)
  refine lv_iload_n hx hb dX11_strip_20 rfl (lv_at hl 1 rfl) ?_
  refine lv_if_eq (tgt := 31) hx hb dX11_strip_21 (by decide) (fun q12 => ?_) (fun q12 => ?_)
  · replace hv := fnP hv q12
    have r13 : Rg x1 (0) (0) := Rg_both h1 (Rg_eqv q12 (Rg_c (x := 0) (a := (0)) (b := (0)) (by decide))) (by decide)
    refine lv_iload_n hx hb dX11_strip_31 rfl (lv_at hl 2 rfl) ?_
    exact L_32 I1 _ _ _ x2 hH hv oI sm (Rg_w r10 (by decide)) (lv_sub hl [0] rfl)
  replace hv := fnN hv q12
  have r14 : Rg x1 (1) (1) := Rg_nelo h1 (Rg_ne q12) (Rg_c (x := 0) (a := (0)) (b := (0)) (by decide)) (by decide)
  refine lv_bipush (v := 10) hx hb dX11_strip_24 (by decide) ?_
  refine lv_iload_n hx hb dX11_strip_26 rfl (lv_at hl 2 rfl) ?_
  refine lv_iadd hx hb dX11_strip_27 ?_
  refine lv_topi (fun y15 ey15 => ?_)
  replace hv := fnS hv ey15
  obtain ⟨ty15, ry15⟩ := Rg_addx (a' := (10)) (b' := (19)) (by decide : Int32.toInt 10 = 10) (rfl : x2.toInt = _) (Rg_c (x := 10) (a := (10)) (b := (10)) (by decide)) r10 (by decide)
  rw [← ey15] at ty15 ry15
  refine lv_goto (tgt := 32) hx hb dX11_strip_28 (by decide) ?_
  exact L_32 I1 _ _ _ y15 hH hv oI sm (Rg_w ry15 (by decide)) (lv_sub hl [0] rfl)
noncomputable def F_X11_alias_92 (a0 : Nat) (x1 : Int32) (x2 : Int32) (x3 : Int32) (I_92 : hI) (J : hJ) (R : hR) (xs0_92 : Int32) (xs1_92 : Int32) : Int32 × hU :=
  nm (xs1_92 + xs0_92) fun y3 => nm (u2 I_92 a0 18 y3) fun I4 => ((1 : Int32), (I4, J, R))
noncomputable def F_X11_alias_70 (a0 : Nat) (x1 : Int32) (x2 : Int32) (x3 : Int32) (I_70 : hI) (J : hJ) (R : hR) (x4_70 : Int32) : Int32 × hU :=
  nm ((R a0 17).getD 0) fun b6 => nm (u2 I_70 b6 (Int32.toNatClampNeg x4_70) x3) fun I7 => nm (I7 a0 18) fun y8 => (if x3 = (0 : Int32) then F_X11_alias_92 a0 x1 x2 x3 I7 J R (-1 : Int32) y8 else F_X11_alias_92 a0 x1 x2 x3 I7 J R (1 : Int32) y8)
noncomputable def F_X11_alias_68 (a0 : Nat) (x1 : Int32) (x2 : Int32) (x3 : Int32) (I_68 : hI) (J : hJ) (R : hR) : Int32 × hU :=
  ((0 : Int32), (I_68, J, R))
noncomputable def F_X11_alias_34 (a0 : Nat) (x1 : Int32) (x2 : Int32) (x3 : Int32) (I_34 : hI) (J : hJ) (R : hR) : Int32 × hU :=
  ((0 : Int32), (I_34, J, R))
noncomputable def F_X11_alias (a0 : Nat) (x1 : Int32) (x2 : Int32) (x3 : Int32) (I : hI) (J : hJ) (R : hR) : Int32 × hU :=
  nm (u2 I a0 0 (0 : Int32)) fun I1 => nm (F_X11_in (x1.toInt64) (0 : Int64) (99 : Int64)) fun y12 => (if y12 = (1 : Int32) then nm (F_X11_in (x2.toInt64) (0 : Int64) (99 : Int64)) fun y18 => (if y18 = (1 : Int32) then (if x1 = x2 then F_X11_alias_34 a0 x1 x2 x3 I1 J R else nm ((100 : Int32) * x1) fun y25 => nm (y25 + x2) fun y26 => nm ((R a0 17).getD 0) fun b27 => nm (I1 b27 (Int32.toNatClampNeg y26)) fun y28 => (if y28 = x3 then F_X11_alias_68 a0 x1 x2 x3 I1 J R else (if x3 = (0 : Int32) then F_X11_alias_70 a0 x1 x2 x3 I1 J R y26 else nm (I1 a0 18) fun y33 => (if y33 = (30 : Int32) then F_X11_alias_68 a0 x1 x2 x3 I1 J R else F_X11_alias_70 a0 x1 x2 x3 I1 J R y26)))) else F_X11_alias_34 a0 x1 x2 x3 I1 J R) else F_X11_alias_34 a0 x1 x2 x3 I1 J R)
def ms_X11_alias : List Nat := [704, 722, 5056]
set_option maxHeartbeats 4000000 in
set_option maxRecDepth 100000 in
theorem c_X11_alias {l : Launch} {D : va_G} {cy : Nat → ClassId} {L : List Nat} {C : Nat → Nat} {b0 : Nat} {I : hI} {J : hJ} {R : hR} {a0 : Nat} {x1 : Int32} {x2 : Int32} {x3 : Int32} (oI : OkI L C I) (oR : OkR L C R) (m0 : a0 ∈ L) (k0 : C a0 = 11) (h3 : Rg x3 (0) (1)) : CI l yX11_alias cX11_alias 5 .boolean 1 D cy L C b0 [.ref a0, .int x1, .int x2, .int x3] (I, J, R) (fun r v => Ps L C ms_X11_alias (I, J, R) v ∧ v.2.1 = J ∧ v.2.2 = R ∧ Rg r (0) (1) ∧ F_X11_alias a0 x1 x2 x3 I J R = (r, v)) := by
  refine CI.mkZ (plainFor_of_name (by decide)) (Nat.le_of_ble_eq_true rfl) ?_
  intro p e s m args below meth c ls Q hF ret hH hl
  obtain ⟨hx, hb, -, hml, hown, hts, -⟩ := hF
  have hl : lv_has ls 5 [(0, .ref a0), (1, .int x1), (2, .int x2), (3, .int x3)] := hl
  have hH : Hp D cy L C b0 s s.heap I J R s.heap [] := hH
  have sm : Sm C ms_X11_alias (I, J, R) (I, J, R) := Sm.rf
  obtain ⟨TT0, hT⟩ : ∃ TT0, TT0 = F_X11_alias a0 x1 x2 x3 I J R := ⟨_, rfl⟩
  have hv := hT
  unfold F_X11_alias at hv
  refine lv_aload_n hx hb dX11_alias_0 rfl (lv_at hl 0 rfl) ?_
  refine lv_iconst (v := 0) hx hb dX11_alias_1 (by decide) ?_
  refine pf_11_0 hx hb hts hown hH m0 k0 rfl kf_X11_131 dX11_alias_2 (fun I1 H locs eI1 hH => ?_)
  replace hv := fnS hv eI1
  have oI : OkI L C I1 := by rw [eI1]; exact wf_11_0 oI k0 (Rg_w (Rg_c (x := 0) (a := (0)) (b := (0)) (by decide)) (by decide))
  have sm : Sm C ms_X11_alias (I, J, R) (I1, J, R) := by rw [eI1]; exact sm.stI k0 (mC_obj (by decide) rfl)
  have f2 : 0 = I1 a0 0 := by rw [eI1, u2_at]
  refine lv_iload_n hx hb dX11_alias_5 rfl (lv_at hl 1 rfl) ?_
  refine lv_i2l (v := x1.toInt64) hx hb dX11_alias_6 rfl ?_
  refine lv_lconst (v := 0) hx hb dX11_alias_7 (by decide) ?_
  refine lv_ldc2 (v := 99) hx hb hown (hts _ kkl_X11_219) dX11_alias_8 ?_
  have L_92 : ∀ (I_92 : hI) (H : Heap) (locs : List Loc) (ls : Array Slot) (xs0_92 : Int32) (xs1_92 : Int32), Hp D cy L C b0 s s.heap I_92 J R H locs → TT0 = F_X11_alias_92 a0 x1 x2 x3 I_92 J R xs0_92 xs1_92 → OkI L C I_92 → Sm C ms_X11_alias (I, J, R) (I_92, J, R) → Rg xs0_92 (-1) (1) → lv_has ls 5 [] → W p l e (rmD 1) s m args below meth c H locs 0 0 Q (F0 m 92 ls [.int xs0_92, .int xs1_92, .ref a0]) := by
    intro I_92 H locs ls xs0_92 xs1_92 hH hv oI sm rs0_92 hl
    unfold F_X11_alias_92 at hv
    refine lv_iadd hx hb dX11_alias_92 ?_
    refine lv_topi (fun y3 ey3 => ?_)
    replace hv := fnS hv ey3
    refine pf_11_18 hx hb hts hown hH m0 k0 rfl kf_X11_239 dX11_alias_93 (fun I4 H locs eI4 hH => ?_)
    replace hv := fnS hv eI4
    have oI : OkI L C I4 := by rw [eI4]; exact wf_11_18 oI k0 (Rg_any y3)
    have sm : Sm C ms_X11_alias (I, J, R) (I4, J, R) := by rw [eI4]; exact sm.stI k0 (mC_obj (by decide) rfl)
    have f5 : y3 = I4 a0 18 := by rw [eI4, u2_at]
    refine lv_iconst (v := 1) hx hb dX11_alias_96 (by decide) ?_
    exact ret (1) _ _ _ _ _ _ _ dX11_alias_97 hH (Rg_01 (Rg_w (Rg_c (x := 1) (a := (1)) (b := (1)) (by decide)) (by decide))) ⟨⟨oI, oR, sm⟩, rfl, rfl, (Rg_w (Rg_c (x := 1) (a := (1)) (b := (1)) (by decide)) (by decide)), (hT.symm.trans hv)⟩
  have L_70 : ∀ (I_70 : hI) (H : Heap) (locs : List Loc) (ls : Array Slot) (x4_70 : Int32), Hp D cy L C b0 s s.heap I_70 J R H locs → TT0 = F_X11_alias_70 a0 x1 x2 x3 I_70 J R x4_70 → OkI L C I_70 → Sm C ms_X11_alias (I, J, R) (I_70, J, R) → Rg x3 (0) (1) → Rg x4_70 (0) (9999) → lv_has ls 5 [(0, .ref a0), (3, .int x3), (4, .int x4_70)] → W p l e (rmD 1) s m args below meth c H locs 0 0 Q (F0 m 70 ls []) := by
    intro I_70 H locs ls x4_70 hH hv oI sm r3_70 r4_70 hl
    unfold F_X11_alias_70 at hv
    refine lv_aload_n hx hb dX11_alias_70 rfl (lv_at hl 0 rfl) ?_
    obtain ⟨b6, mb6, vb6, kb6⟩ := rf_11_17 oR m0 k0
    replace hv := fnR hv vb6
    refine gf_11_17 vb6 hx hb hts hown hH m0 k0 rfl kf_X11_56 dX11_alias_71 ?_
    refine lv_iload hx hb dX11_alias_74 (lv_at hl 2 rfl) ?_
    refine lv_iload_n hx hb dX11_alias_76 rfl (lv_at hl 1 rfl) ?_
    refine st_79 hx hb hH mb6 kb6 (Rg_in r4_70 (by decide)) (Rg_01 (Rg_w r3_70 (by decide))) dX11_alias_77 (fun I7 H locs eI7 hH => ?_)
    replace hv := fnS hv eI7
    have oI : OkI L C I7 := by rw [eI7]; exact wr_79 oI kb6 r3_70
    have sm : Sm C ms_X11_alias (I, J, R) (I7, J, R) := by rw [eI7]; exact sm.stI kb6 (mC_arr (by decide) rfl)
    refine lv_aload_n hx hb dX11_alias_78 rfl (lv_at hl 0 rfl) ?_
    refine lv_dup hx hb dX11_alias_79 rfl ?_
    refine gf_11_18 hx hb hts hown hH m0 k0 rfl kf_X11_239 dX11_alias_80 ?_
    refine lv_topi (fun y8 ey8 => ?_)
    replace hv := fnS hv ey8
    refine lv_iload_n hx hb dX11_alias_83 rfl (lv_at hl 1 rfl) ?_
    refine lv_if_eq (tgt := 91) hx hb dX11_alias_84 (by decide) (fun q9 => ?_) (fun q9 => ?_)
    · replace hv := fnP hv q9
      have r10 : Rg x3 (0) (0) := Rg_both r3_70 (Rg_eqv q9 (Rg_c (x := 0) (a := (0)) (b := (0)) (by decide))) (by decide)
      refine lv_iconst (v := (-1)) hx hb dX11_alias_91 (by decide) ?_
      exact L_92 I7 _ _ _ (-1) y8 hH hv oI sm (Rg_w (Rg_c (x := (-1)) (a := (-1)) (b := (-1)) (by decide)) (by decide)) (lv_sub hl [] rfl)
    replace hv := fnN hv q9
    have r11 : Rg x3 (1) (1) := Rg_nelo r3_70 (Rg_ne q9) (Rg_c (x := 0) (a := (0)) (b := (0)) (by decide)) (by decide)
    refine lv_iconst (v := 1) hx hb dX11_alias_87 (by decide) ?_
    refine lv_goto (tgt := 92) hx hb dX11_alias_88 (by decide) ?_
    exact L_92 I7 _ _ _ 1 y8 hH hv oI sm (Rg_w (Rg_c (x := 1) (a := (1)) (b := (1)) (by decide)) (by decide)) (lv_sub hl [] rfl)
  have L_68 : ∀ (I_68 : hI) (H : Heap) (locs : List Loc) (ls : Array Slot), Hp D cy L C b0 s s.heap I_68 J R H locs → TT0 = F_X11_alias_68 a0 x1 x2 x3 I_68 J R → OkI L C I_68 → Sm C ms_X11_alias (I, J, R) (I_68, J, R) → lv_has ls 5 [] → W p l e (rmD 1) s m args below meth c H locs 0 0 Q (F0 m 68 ls []) := by
    intro I_68 H locs ls hH hv oI sm hl
    unfold F_X11_alias_68 at hv
    refine lv_iconst (v := 0) hx hb dX11_alias_68 (by decide) ?_
    exact ret (0) _ _ _ _ _ _ _ dX11_alias_69 hH (Rg_01 (Rg_w (Rg_c (x := 0) (a := (0)) (b := (0)) (by decide)) (by decide))) ⟨⟨oI, oR, sm⟩, rfl, rfl, (Rg_w (Rg_c (x := 0) (a := (0)) (b := (0)) (by decide)) (by decide)), (hT.symm.trans hv)⟩
  have L_34 : ∀ (I_34 : hI) (H : Heap) (locs : List Loc) (ls : Array Slot), Hp D cy L C b0 s s.heap I_34 J R H locs → TT0 = F_X11_alias_34 a0 x1 x2 x3 I_34 J R → OkI L C I_34 → Sm C ms_X11_alias (I, J, R) (I_34, J, R) → lv_has ls 5 [] → W p l e (rmD 1) s m args below meth c H locs 0 0 Q (F0 m 34 ls []) := by
    intro I_34 H locs ls hH hv oI sm hl
    unfold F_X11_alias_34 at hv
    refine lv_iconst (v := 0) hx hb dX11_alias_34 (by decide) ?_
    exact ret (0) _ _ _ _ _ _ _ dX11_alias_35 hH (Rg_01 (Rg_w (Rg_c (x := 0) (a := (0)) (b := (0)) (by decide)) (by decide))) ⟨⟨oI, oR, sm⟩, rfl, rfl, (Rg_w (Rg_c (x := 0) (a := (0)) (b := (0)) (by decide)) (by decide)), (hT.symm.trans hv)⟩
  refine ca_X11_138 hx hb hml hown hts hH (c_X11_in ) hl.1 (by decide) (Nat.le_of_ble_eq_true rfl) ⟨Nat.zero_le _, Nat.zero_le _⟩ dX11_alias_11 (fun y12 I12 J12 R12 H locs hp hH => ?_)
  obtain ⟨eI12, eJ12, eR12, ry12, hp12, hf12⟩ := hp
  obtain rfl : I1 = I12 := eI12.symm
  obtain rfl : J = J12 := eJ12.symm
  obtain rfl : R = R12 := eR12.symm
  replace hv := fnS hv hf12.symm
  rcases hp12 with ⟨rfl, hq12⟩ | ⟨rfl, hq12⟩
  rotate_left
  · replace hv := fnN hv (by decide)
    refine lv_if_eq (tgt := 34) hx hb dX11_alias_14 (by decide) (fun q37 => ?_) (fun q37 => ?_)
    · exact L_34 I1 _ _ _ hH hv oI sm (lv_sub hl [] rfl)
    exact absurd rfl q37
  replace hv := fnP hv rfl
  have l13 : Int32.toInt 0 ≤ x1.toInt := in_cl hq12.1 (by decide)
  have r14 : Rg x1 (0) (2147483647) := Rg_lle (Rg_any x1) l13 (Rg_c (x := 0) (a := (0)) (b := (0)) (by decide)) (by decide)
  have l15 : x1.toInt ≤ Int32.toInt 99 := in_lc hq12.2 (by decide)
  have r16 : Rg x1 (0) (99) := Rg_ule r14 l15 (Rg_c (x := 99) (a := (99)) (b := (99)) (by decide)) (by decide)
  refine lv_if_eq (tgt := 34) hx hb dX11_alias_14 (by decide) (fun q17 => ?_) (fun q17 => ?_)
  · exact absurd q17 (by decide)
  refine lv_iload_n hx hb dX11_alias_17 rfl (lv_at hl 2 rfl) ?_
  refine lv_i2l (v := x2.toInt64) hx hb dX11_alias_18 rfl ?_
  refine lv_lconst (v := 0) hx hb dX11_alias_19 (by decide) ?_
  refine lv_ldc2 (v := 99) hx hb hown (hts _ kkl_X11_219) dX11_alias_20 ?_
  refine ca_X11_138 hx hb hml hown hts hH (c_X11_in ) hl.1 (by decide) (Nat.le_of_ble_eq_true rfl) ⟨Nat.zero_le _, Nat.zero_le _⟩ dX11_alias_23 (fun y18 I18 J18 R18 H locs hp hH => ?_)
  obtain ⟨eI18, eJ18, eR18, ry18, hp18, hf18⟩ := hp
  obtain rfl : I1 = I18 := eI18.symm
  obtain rfl : J = J18 := eJ18.symm
  obtain rfl : R = R18 := eR18.symm
  replace hv := fnS hv hf18.symm
  rcases hp18 with ⟨rfl, hq18⟩ | ⟨rfl, hq18⟩
  rotate_left
  · replace hv := fnN hv (by decide)
    refine lv_if_eq (tgt := 34) hx hb dX11_alias_26 (by decide) (fun q36 => ?_) (fun q36 => ?_)
    · exact L_34 I1 _ _ _ hH hv oI sm (lv_sub hl [] rfl)
    exact absurd rfl q36
  replace hv := fnP hv rfl
  have l19 : Int32.toInt 0 ≤ x2.toInt := in_cl hq18.1 (by decide)
  have r20 : Rg x2 (0) (2147483647) := Rg_lle (Rg_any x2) l19 (Rg_c (x := 0) (a := (0)) (b := (0)) (by decide)) (by decide)
  have l21 : x2.toInt ≤ Int32.toInt 99 := in_lc hq18.2 (by decide)
  have r22 : Rg x2 (0) (99) := Rg_ule r20 l21 (Rg_c (x := 99) (a := (99)) (b := (99)) (by decide)) (by decide)
  refine lv_if_eq (tgt := 34) hx hb dX11_alias_26 (by decide) (fun q23 => ?_) (fun q23 => ?_)
  · exact absurd q23 (by decide)
  refine lv_iload_n hx hb dX11_alias_29 rfl (lv_at hl 1 rfl) ?_
  refine lv_iload_n hx hb dX11_alias_30 rfl (lv_at hl 2 rfl) ?_
  refine lv_icmp_ne (tgt := 36) hx hb dX11_alias_31 (by decide) (fun q24 => ?_) (fun q24 => ?_)
  rotate_left
  · replace hv := fnP hv q24
    exact L_34 I1 _ _ _ hH hv oI sm (lv_sub hl [] rfl)
  replace hv := fnN hv q24
  refine lv_bipush (v := 100) hx hb dX11_alias_36 (by decide) ?_
  refine lv_iload_n hx hb dX11_alias_38 rfl (lv_at hl 1 rfl) ?_
  refine lv_imul hx hb dX11_alias_39 ?_
  refine lv_topi (fun y25 ey25 => ?_)
  replace hv := fnS hv ey25
  obtain ⟨ty25, ry25⟩ := Rg_mulx (a' := (0)) (b' := (9900)) (by decide : Int32.toInt 100 = 100) (rfl : x1.toInt = _) (Rg_c (x := 100) (a := (100)) (b := (100)) (by decide)) r16 (by decide)
  rw [← ey25] at ty25 ry25
  refine lv_iload_n hx hb dX11_alias_40 rfl (lv_at hl 2 rfl) ?_
  refine lv_iadd hx hb dX11_alias_41 ?_
  refine lv_topi (fun y26 ey26 => ?_)
  replace hv := fnS hv ey26
  obtain ⟨ty26, ry26⟩ := Rg_addx (a' := (0)) (b' := (9999)) (rfl : y25.toInt = _) (rfl : x2.toInt = _) ry25 r22 (by decide)
  rw [← ey26] at ty26 ry26
  refine lv_istore (lv' := [(4, .int y26), (0, .ref a0), (1, .int x1), (2, .int x2), (3, .int x3)]) hx hb dX11_alias_42 hl (by decide) rfl (fun ls hl => ?_)
  refine lv_aload_n hx hb dX11_alias_44 rfl (lv_at hl 1 rfl) ?_
  obtain ⟨b27, mb27, vb27, kb27⟩ := rf_11_17 oR m0 k0
  replace hv := fnR hv vb27
  refine gf_11_17 vb27 hx hb hts hown hH m0 k0 rfl kf_X11_56 dX11_alias_45 ?_
  refine lv_iload hx hb dX11_alias_48 (lv_at hl 0 rfl) ?_
  refine ld_79 hx hb hH mb27 kb27 (Rg_in ry26 (by decide)) dX11_alias_50 ?_
  refine lv_topi (fun y28 ey28 => ?_)
  have ry28 : Rg y28 (0) (1) := by rw [ey28]; exact rd_79 oI mb27 kb27 (Rg_in ry26 (by decide))
  replace hv := fnS hv ey28
  refine lv_iload_n hx hb dX11_alias_51 rfl (lv_at hl 4 rfl) ?_
  refine lv_icmp_eq (tgt := 68) hx hb dX11_alias_52 (by decide) (fun q29 => ?_) (fun q29 => ?_)
  · replace hv := fnP hv q29
    exact L_68 I1 _ _ _ hH hv oI sm (lv_sub hl [] rfl)
  replace hv := fnN hv q29
  refine lv_iload_n hx hb dX11_alias_55 rfl (lv_at hl 4 rfl) ?_
  refine lv_if_eq (tgt := 70) hx hb dX11_alias_56 (by decide) (fun q30 => ?_) (fun q30 => ?_)
  · replace hv := fnP hv q30
    have r31 : Rg x3 (0) (0) := Rg_both h3 (Rg_eqv q30 (Rg_c (x := 0) (a := (0)) (b := (0)) (by decide))) (by decide)
    exact L_70 I1 _ _ _ y26 hH hv oI sm (Rg_w r31 (by decide)) ry26 (lv_sub hl [1, 4, 0] rfl)
  replace hv := fnN hv q30
  have r32 : Rg x3 (1) (1) := Rg_nelo h3 (Rg_ne q30) (Rg_c (x := 0) (a := (0)) (b := (0)) (by decide)) (by decide)
  refine lv_aload_n hx hb dX11_alias_59 rfl (lv_at hl 1 rfl) ?_
  refine gf_11_18 hx hb hts hown hH m0 k0 rfl kf_X11_239 dX11_alias_60 ?_
  refine lv_topi (fun y33 ey33 => ?_)
  replace hv := fnS hv ey33
  refine lv_bipush (v := 30) hx hb dX11_alias_63 (by decide) ?_
  refine lv_icmp_ne (tgt := 70) hx hb dX11_alias_65 (by decide) (fun q34 => ?_) (fun q34 => ?_)
  · replace hv := fnN hv q34
    exact L_70 I1 _ _ _ y26 hH hv oI sm (Rg_w r32 (by decide)) ry26 (lv_sub hl [1, 4, 0] rfl)
  replace hv := fnP hv q34
  have r35 : Rg y33 (30) (30) := Rg_both (Rg_any y33) (Rg_eqv q34 (Rg_c (x := 30) (a := (30)) (b := (30)) (by decide))) (by decide)
  exact L_68 I1 _ _ _ hH hv oI sm (lv_sub hl [] rfl)
noncomputable def F_X11_constant (a0 : Nat) (x1 : Int32) (x2 : Int32) (x3 : Int64) (I : hI) (J : hJ) (R : hR) : Int32 × hU :=
  nm (u2 I a0 0 (0 : Int32)) fun I1 => nm (F_X11_in (x1.toInt64) (0 : Int64) (6 : Int64)) fun y3 => (if y3 = (1 : Int32) then (if x2 = (0 : Int32) then nm ((R a0 19).getD 0) fun b13 => nm (I1 b13 (Int32.toNatClampNeg x1)) fun y14 => (if y14 = (0 : Int32) then nm (u2 I1 b13 (Int32.toNatClampNeg x1) x2) fun I18 => nm ((R a0 20).getD 0) fun b19 => nm (u2 J b19 (Int32.toNatClampNeg x1) x3) fun J20 => ((0 : Int32), (I18, J20, R)) else nm (u2 I1 b13 (Int32.toNatClampNeg x1) x2) fun I25 => nm ((R a0 20).getD 0) fun b26 => nm (u2 J b26 (Int32.toNatClampNeg x1) x3) fun J27 => ((1 : Int32), (I25, J27, R))) else nm (F_X11_isOf x1 x3) fun y32 => (if y32 = (0 : Int32) then ((-3 : Int32), (I1, J, R)) else nm ((R a0 19).getD 0) fun b36 => nm (I1 b36 (Int32.toNatClampNeg x1)) fun y37 => (if y37 = (0 : Int32) then nm (u2 I1 b36 (Int32.toNatClampNeg x1) x2) fun I41 => nm ((R a0 20).getD 0) fun b42 => nm (u2 J b42 (Int32.toNatClampNeg x1) x3) fun J43 => ((0 : Int32), (I41, J43, R)) else nm (u2 I1 b36 (Int32.toNatClampNeg x1) x2) fun I48 => nm ((R a0 20).getD 0) fun b49 => nm (u2 J b49 (Int32.toNatClampNeg x1) x3) fun J50 => ((1 : Int32), (I48, J50, R))))) else ((-3 : Int32), (I1, J, R)))
def ms_X11_constant : List Nat := [704, 5120, 5184]
set_option maxHeartbeats 4000000 in
set_option maxRecDepth 100000 in
theorem c_X11_constant {l : Launch} {D : va_G} {cy : Nat → ClassId} {L : List Nat} {C : Nat → Nat} {b0 : Nat} {I : hI} {J : hJ} {R : hR} {a0 : Nat} {x1 : Int32} {x2 : Int32} {x3 : Int64} (oI : OkI L C I) (oR : OkR L C R) (m0 : a0 ∈ L) (k0 : C a0 = 11) (h2 : Rg x2 (0) (1)) (hU : Uq L C) : CI l yX11_constant cX11_constant 6 .int 2 D cy L C b0 [.ref a0, .int x1, .int x2, .long x3] (I, J, R) (fun r v => Ps L C ms_X11_constant (I, J, R) v ∧ v.2.2 = R ∧ Rg r (-3) (1) ∧ (∀ ct ∈ L, C ct = 80 → r = conR (I ct) x1 x2 x3 ∧ v.1 ct = conH (I ct) x1 x2 x3) ∧ F_X11_constant a0 x1 x2 x3 I J R = (r, v)) := by
  refine CI.mkI (plainFor_of_name (by decide)) (Nat.le_of_ble_eq_true rfl) ?_
  intro p e s m args below meth c ls Q hF ret hH hl
  obtain ⟨hx, hb, -, hml, hown, hts, -⟩ := hF
  have hl : lv_has ls 6 [(0, .ref a0), (1, .int x1), (2, .int x2), (3, .long x3)] := hl
  have hH : Hp D cy L C b0 s s.heap I J R s.heap [] := hH
  have sm : Sm C ms_X11_constant (I, J, R) (I, J, R) := Sm.rf
  obtain ⟨TT0, hT⟩ : ∃ TT0, TT0 = F_X11_constant a0 x1 x2 x3 I J R := ⟨_, rfl⟩
  have hv := hT
  unfold F_X11_constant at hv
  refine lv_aload_n hx hb dX11_constant_0 rfl (lv_at hl 0 rfl) ?_
  refine lv_iconst (v := 0) hx hb dX11_constant_1 (by decide) ?_
  refine pf_11_0 hx hb hts hown hH m0 k0 rfl kf_X11_131 dX11_constant_2 (fun I1 H locs eI1 hH => ?_)
  replace hv := fnS hv eI1
  have oI : OkI L C I1 := by rw [eI1]; exact wf_11_0 oI k0 (Rg_w (Rg_c (x := 0) (a := (0)) (b := (0)) (by decide)) (by decide))
  have sm : Sm C ms_X11_constant (I, J, R) (I1, J, R) := by rw [eI1]; exact sm.stI k0 (mC_obj (by decide) rfl)
  have f2 : 0 = I1 a0 0 := by rw [eI1, u2_at]
  refine lv_iload_n hx hb dX11_constant_5 rfl (lv_at hl 1 rfl) ?_
  refine lv_i2l (v := x1.toInt64) hx hb dX11_constant_6 rfl ?_
  refine lv_lconst (v := 0) hx hb dX11_constant_7 (by decide) ?_
  refine lv_ldc2 (v := 6) hx hb hown (hts _ kkl_X11_150) dX11_constant_8 ?_
  refine ca_X11_138 hx hb hml hown hts hH (c_X11_in ) hl.1 (by decide) (Nat.le_of_ble_eq_true rfl) ⟨Nat.zero_le _, Nat.zero_le _⟩ dX11_constant_11 (fun y3 I3 J3 R3 H locs hp hH => ?_)
  obtain ⟨eI3, eJ3, eR3, ry3, hp3, hf3⟩ := hp
  obtain rfl : I1 = I3 := eI3.symm
  obtain rfl : J = J3 := eJ3.symm
  obtain rfl : R = R3 := eR3.symm
  replace hv := fnS hv hf3.symm
  rcases hp3 with ⟨rfl, hq3⟩ | ⟨rfl, hq3⟩
  rotate_left
  · replace hv := fnN hv (by decide)
    have l8 := hq3
    simp only [Int32.toInt_toInt64, show Int64.toInt (0) = 0 by decide, show Int64.toInt (6) = 6 by decide, show Int32.toInt (0) = 0 by decide, show Int32.toInt (6) = 6 by decide] at l8
    refine lv_if_eq (tgt := 29) hx hb dX11_constant_14 (by decide) (fun q56 => ?_) (fun q56 => ?_)
    rotate_left
    · exact absurd rfl q56
    refine lv_bipush (v := (-3)) hx hb dX11_constant_29 (by decide) ?_
    exact ret ((-3)) _ _ _ _ _ _ _ dX11_constant_31 hH ⟨⟨oI, oR, sm⟩, rfl, (Rg_w (Rg_c (x := (-3)) (a := (-3)) (b := (-3)) (by decide)) (by decide)), (by intro ct mct kct; obtain ⟨ga1, gb1⟩ := h2; obtain ⟨o1, o2⟩ := con_no (h := I ct) (s := x1) (z := x2) (v := x3) (fun h => by have a1 := h.1; omega); rw [o1, o2]; refine ⟨rfl, ?_⟩; show I1 ct = _; have s57 : I1 ct = I ct := (by rw [eI1, u2_ne (ne_role kct k0 (by decide))]); rw [s57]), (hT.symm.trans hv)⟩
  replace hv := fnP hv rfl
  have l8 := hq3
  simp only [Int32.toInt_toInt64, show Int64.toInt (0) = 0 by decide, show Int64.toInt (6) = 6 by decide, show Int32.toInt (0) = 0 by decide, show Int32.toInt (6) = 6 by decide] at l8
  have l4 : Int32.toInt 0 ≤ x1.toInt := in_cl hq3.1 (by decide)
  have r5 : Rg x1 (0) (2147483647) := Rg_lle (Rg_any x1) l4 (Rg_c (x := 0) (a := (0)) (b := (0)) (by decide)) (by decide)
  have l6 : x1.toInt ≤ Int32.toInt 6 := in_lc hq3.2 (by decide)
  have r7 : Rg x1 (0) (6) := Rg_ule r5 l6 (Rg_c (x := 6) (a := (6)) (b := (6)) (by decide)) (by decide)
  refine lv_if_eq (tgt := 29) hx hb dX11_constant_14 (by decide) (fun q9 => ?_) (fun q9 => ?_)
  · exact absurd q9 (by decide)
  refine lv_iload_n hx hb dX11_constant_17 rfl (lv_at hl 2 rfl) ?_
  refine lv_if_eq (tgt := 32) hx hb dX11_constant_18 (by decide) (fun q10 => ?_) (fun q10 => ?_)
  · replace hv := fnP hv q10
    have l11 := congrArg Int32.toInt q10
    have r12 : Rg x2 (0) (0) := Rg_both h2 (Rg_eqv q10 (Rg_c (x := 0) (a := (0)) (b := (0)) (by decide))) (by decide)
    refine lv_aload_n hx hb dX11_constant_32 rfl (lv_at hl 0 rfl) ?_
    obtain ⟨b13, mb13, vb13, kb13⟩ := rf_11_19 oR m0 k0
    replace hv := fnR hv vb13
    refine gf_11_19 vb13 hx hb hts hown hH m0 k0 rfl kf_X11_59 dX11_constant_33 ?_
    refine lv_iload_n hx hb dX11_constant_36 rfl (lv_at hl 1 rfl) ?_
    refine ld_80 hx hb hH mb13 kb13 (Rg_in r7 (by decide)) dX11_constant_37 ?_
    refine lv_topi (fun y14 ey14 => ?_)
    have ry14 : Rg y14 (0) (1) := by rw [ey14]; exact rd_80 oI mb13 kb13 (Rg_in r7 (by decide))
    replace hv := fnS hv ey14
    refine lv_if_eq (tgt := 45) hx hb dX11_constant_38 (by decide) (fun q15 => ?_) (fun q15 => ?_)
    · replace hv := fnP hv q15
      have l16 := congrArg Int32.toInt q15
      have r17 : Rg y14 (0) (0) := Rg_both ry14 (Rg_eqv q15 (Rg_c (x := 0) (a := (0)) (b := (0)) (by decide))) (by decide)
      refine lv_iconst (v := 0) hx hb dX11_constant_45 (by decide) ?_
      refine lv_istore (lv' := [(5, .int 0), (0, .ref a0), (1, .int x1), (2, .int x2), (3, .long x3)]) hx hb dX11_constant_46 hl (by decide) rfl (fun ls hl => ?_)
      refine lv_aload_n hx hb dX11_constant_48 rfl (lv_at hl 1 rfl) ?_
      refine gf_11_19 vb13 hx hb hts hown hH m0 k0 rfl kf_X11_59 dX11_constant_49 ?_
      refine lv_iload_n hx hb dX11_constant_52 rfl (lv_at hl 2 rfl) ?_
      refine lv_iload_n hx hb dX11_constant_53 rfl (lv_at hl 3 rfl) ?_
      refine st_80 hx hb hH mb13 kb13 (Rg_in r7 (by decide)) (Rg_01 (Rg_w r12 (by decide))) dX11_constant_54 (fun I18 H locs eI18 hH => ?_)
      replace hv := fnS hv eI18
      have oI : OkI L C I18 := by rw [eI18]; exact wr_80 oI kb13 (Rg_w r12 (by decide))
      have sm : Sm C ms_X11_constant (I, J, R) (I18, J, R) := by rw [eI18]; exact sm.stI kb13 (mC_arr (by decide) rfl)
      refine lv_aload_n hx hb dX11_constant_55 rfl (lv_at hl 1 rfl) ?_
      obtain ⟨b19, mb19, vb19, kb19⟩ := rf_11_20 oR m0 k0
      replace hv := fnR hv vb19
      refine gf_11_20 vb19 hx hb hts hown hH m0 k0 rfl kf_X11_62 dX11_constant_56 ?_
      refine lv_iload_n hx hb dX11_constant_59 rfl (lv_at hl 2 rfl) ?_
      refine lv_lload_n hx hb dX11_constant_60 rfl (lv_at hl 4 rfl) ?_
      refine st_81 hx hb hH mb19 kb19 (Rg_in r7 (by decide)) dX11_constant_61 (fun J20 H locs eJ20 hH => ?_)
      replace hv := fnS hv eJ20
      have sm : Sm C ms_X11_constant (I, J, R) (I18, J20, R) := by rw [eJ20]; exact sm.stJ kb19 (mC_arr (by decide) rfl)
      refine lv_iload hx hb dX11_constant_62 (lv_at hl 0 rfl) ?_
      exact ret (0) _ _ _ _ _ _ _ dX11_constant_64 hH ⟨⟨oI, oR, sm⟩, rfl, (Rg_w (Rg_c (x := 0) (a := (0)) (b := (0)) (by decide)) (by decide)), (by intro ct mct kct; obtain ⟨ga0, gb0⟩ := r7; obtain ⟨ga1, gb1⟩ := r12; rw [hU ct mct b13 mb13 (kct.trans kb13.symm) (by rw [kct]; rfl)]; have h7 : I b13 x1.toNatClampNeg = y14 := (by rw [ey14, eI1, u2_ne (ne_role kb13 k0 (by decide))]); obtain ⟨o1, o2⟩ := con_0 (h := I b13) (s := x1) (z := x2) (v := x3) ⟨by omega, fun h => absurd h (by omega)⟩ (by rw [h7]; obtain ⟨a7, a8⟩ := r17; omega); rw [o1, o2]; refine ⟨rfl, ?_⟩; show I18 b13 = _; have s21 : I1 b13 = I b13 := (by rw [eI1, u2_ne (ne_role kb13 k0 (by decide))]); have s22 : I18 b13 = up (I1 b13) _ _ := (by rw [eI18]; exact u2_up); rw [s22, s21]), (hT.symm.trans hv)⟩
    replace hv := fnN hv q15
    have l23 := Rg_ne q15
    have r24 : Rg y14 (1) (1) := Rg_nelo ry14 (Rg_ne q15) (Rg_c (x := 0) (a := (0)) (b := (0)) (by decide)) (by decide)
    refine lv_iconst (v := 1) hx hb dX11_constant_41 (by decide) ?_
    refine lv_goto (tgt := 46) hx hb dX11_constant_42 (by decide) ?_
    refine lv_istore (lv' := [(5, .int 1), (0, .ref a0), (1, .int x1), (2, .int x2), (3, .long x3)]) hx hb dX11_constant_46 hl (by decide) rfl (fun ls hl => ?_)
    refine lv_aload_n hx hb dX11_constant_48 rfl (lv_at hl 1 rfl) ?_
    refine gf_11_19 vb13 hx hb hts hown hH m0 k0 rfl kf_X11_59 dX11_constant_49 ?_
    refine lv_iload_n hx hb dX11_constant_52 rfl (lv_at hl 2 rfl) ?_
    refine lv_iload_n hx hb dX11_constant_53 rfl (lv_at hl 3 rfl) ?_
    refine st_80 hx hb hH mb13 kb13 (Rg_in r7 (by decide)) (Rg_01 (Rg_w r12 (by decide))) dX11_constant_54 (fun I25 H locs eI25 hH => ?_)
    replace hv := fnS hv eI25
    have oI : OkI L C I25 := by rw [eI25]; exact wr_80 oI kb13 (Rg_w r12 (by decide))
    have sm : Sm C ms_X11_constant (I, J, R) (I25, J, R) := by rw [eI25]; exact sm.stI kb13 (mC_arr (by decide) rfl)
    refine lv_aload_n hx hb dX11_constant_55 rfl (lv_at hl 1 rfl) ?_
    obtain ⟨b26, mb26, vb26, kb26⟩ := rf_11_20 oR m0 k0
    replace hv := fnR hv vb26
    refine gf_11_20 vb26 hx hb hts hown hH m0 k0 rfl kf_X11_62 dX11_constant_56 ?_
    refine lv_iload_n hx hb dX11_constant_59 rfl (lv_at hl 2 rfl) ?_
    refine lv_lload_n hx hb dX11_constant_60 rfl (lv_at hl 4 rfl) ?_
    refine st_81 hx hb hH mb26 kb26 (Rg_in r7 (by decide)) dX11_constant_61 (fun J27 H locs eJ27 hH => ?_)
    replace hv := fnS hv eJ27
    have sm : Sm C ms_X11_constant (I, J, R) (I25, J27, R) := by rw [eJ27]; exact sm.stJ kb26 (mC_arr (by decide) rfl)
    refine lv_iload hx hb dX11_constant_62 (lv_at hl 0 rfl) ?_
    exact ret (1) _ _ _ _ _ _ _ dX11_constant_64 hH ⟨⟨oI, oR, sm⟩, rfl, (Rg_w (Rg_c (x := 1) (a := (1)) (b := (1)) (by decide)) (by decide)), (by intro ct mct kct; obtain ⟨ga0, gb0⟩ := r7; obtain ⟨ga1, gb1⟩ := r12; rw [hU ct mct b13 mb13 (kct.trans kb13.symm) (by rw [kct]; rfl)]; have h7 : I b13 x1.toNatClampNeg = y14 := (by rw [ey14, eI1, u2_ne (ne_role kb13 k0 (by decide))]); obtain ⟨o1, o2⟩ := con_1 (h := I b13) (s := x1) (z := x2) (v := x3) ⟨by omega, fun h => absurd h (by omega)⟩ (by rw [h7]; obtain ⟨a7, a8⟩ := r24; omega); rw [o1, o2]; refine ⟨rfl, ?_⟩; show I25 b13 = _; have s28 : I1 b13 = I b13 := (by rw [eI1, u2_ne (ne_role kb13 k0 (by decide))]); have s29 : I25 b13 = up (I1 b13) _ _ := (by rw [eI25]; exact u2_up); rw [s29, s28]), (hT.symm.trans hv)⟩
  replace hv := fnN hv q10
  have l30 := Rg_ne q10
  have r31 : Rg x2 (1) (1) := Rg_nelo h2 (Rg_ne q10) (Rg_c (x := 0) (a := (0)) (b := (0)) (by decide)) (by decide)
  refine lv_iload_n hx hb dX11_constant_21 rfl (lv_at hl 1 rfl) ?_
  refine lv_lload_n hx hb dX11_constant_22 rfl (lv_at hl 3 rfl) ?_
  refine ca_X11_176 hx hb hml hown hts hH (c_X11_isOf r7) hl.1 (by decide) (Nat.le_of_ble_eq_true rfl) ⟨Nat.zero_le _, Nat.zero_le _⟩ dX11_constant_23 (fun y32 I32 J32 R32 H locs hp hH => ?_)
  obtain ⟨eI32, eJ32, eR32, ry32, hp32, hf32⟩ := hp
  obtain rfl : I1 = I32 := eI32.symm
  obtain rfl : J = J32 := eJ32.symm
  obtain rfl : R = R32 := eR32.symm
  replace hv := fnS hv hf32.symm
  refine lv_if_ne (tgt := 32) hx hb dX11_constant_26 (by decide) (fun q33 => ?_) (fun q33 => ?_)
  rotate_left
  · replace hv := fnP hv q33
    have l53 := congrArg Int32.toInt q33
    have r54 : Rg y32 (0) (0) := Rg_both ry32 (Rg_eqv q33 (Rg_c (x := 0) (a := (0)) (b := (0)) (by decide))) (by decide)
    refine lv_bipush (v := (-3)) hx hb dX11_constant_29 (by decide) ?_
    exact ret ((-3)) _ _ _ _ _ _ _ dX11_constant_31 hH ⟨⟨oI, oR, sm⟩, rfl, (Rg_w (Rg_c (x := (-3)) (a := (-3)) (b := (-3)) (by decide)) (by decide)), (by intro ct mct kct; obtain ⟨ga0, gb0⟩ := r7; obtain ⟨ga1, gb1⟩ := r31; obtain ⟨o1, o2⟩ := con_no (h := I ct) (s := x1) (z := x2) (v := x3) (fun h => ((hp32.resolve_left (fun q => by have a1 := r54.2; rw [q.1] at a1; exact absurd a1 (by decide))).2 (h.2 (by omega)))); rw [o1, o2]; refine ⟨rfl, ?_⟩; show I1 ct = _; have s55 : I1 ct = I ct := (by rw [eI1, u2_ne (ne_role kct k0 (by decide))]); rw [s55]), (hT.symm.trans hv)⟩
  replace hv := fnN hv q33
  have l34 := Rg_ne q33
  have r35 : Rg y32 (1) (1) := Rg_nelo ry32 (Rg_ne q33) (Rg_c (x := 0) (a := (0)) (b := (0)) (by decide)) (by decide)
  refine lv_aload_n hx hb dX11_constant_32 rfl (lv_at hl 0 rfl) ?_
  obtain ⟨b36, mb36, vb36, kb36⟩ := rf_11_19 oR m0 k0
  replace hv := fnR hv vb36
  refine gf_11_19 vb36 hx hb hts hown hH m0 k0 rfl kf_X11_59 dX11_constant_33 ?_
  refine lv_iload_n hx hb dX11_constant_36 rfl (lv_at hl 1 rfl) ?_
  refine ld_80 hx hb hH mb36 kb36 (Rg_in r7 (by decide)) dX11_constant_37 ?_
  refine lv_topi (fun y37 ey37 => ?_)
  have ry37 : Rg y37 (0) (1) := by rw [ey37]; exact rd_80 oI mb36 kb36 (Rg_in r7 (by decide))
  replace hv := fnS hv ey37
  refine lv_if_eq (tgt := 45) hx hb dX11_constant_38 (by decide) (fun q38 => ?_) (fun q38 => ?_)
  · replace hv := fnP hv q38
    have l39 := congrArg Int32.toInt q38
    have r40 : Rg y37 (0) (0) := Rg_both ry37 (Rg_eqv q38 (Rg_c (x := 0) (a := (0)) (b := (0)) (by decide))) (by decide)
    refine lv_iconst (v := 0) hx hb dX11_constant_45 (by decide) ?_
    refine lv_istore (lv' := [(5, .int 0), (0, .ref a0), (1, .int x1), (2, .int x2), (3, .long x3)]) hx hb dX11_constant_46 hl (by decide) rfl (fun ls hl => ?_)
    refine lv_aload_n hx hb dX11_constant_48 rfl (lv_at hl 1 rfl) ?_
    refine gf_11_19 vb36 hx hb hts hown hH m0 k0 rfl kf_X11_59 dX11_constant_49 ?_
    refine lv_iload_n hx hb dX11_constant_52 rfl (lv_at hl 2 rfl) ?_
    refine lv_iload_n hx hb dX11_constant_53 rfl (lv_at hl 3 rfl) ?_
    refine st_80 hx hb hH mb36 kb36 (Rg_in r7 (by decide)) (Rg_01 (Rg_w r31 (by decide))) dX11_constant_54 (fun I41 H locs eI41 hH => ?_)
    replace hv := fnS hv eI41
    have oI : OkI L C I41 := by rw [eI41]; exact wr_80 oI kb36 (Rg_w r31 (by decide))
    have sm : Sm C ms_X11_constant (I, J, R) (I41, J, R) := by rw [eI41]; exact sm.stI kb36 (mC_arr (by decide) rfl)
    refine lv_aload_n hx hb dX11_constant_55 rfl (lv_at hl 1 rfl) ?_
    obtain ⟨b42, mb42, vb42, kb42⟩ := rf_11_20 oR m0 k0
    replace hv := fnR hv vb42
    refine gf_11_20 vb42 hx hb hts hown hH m0 k0 rfl kf_X11_62 dX11_constant_56 ?_
    refine lv_iload_n hx hb dX11_constant_59 rfl (lv_at hl 2 rfl) ?_
    refine lv_lload_n hx hb dX11_constant_60 rfl (lv_at hl 4 rfl) ?_
    refine st_81 hx hb hH mb42 kb42 (Rg_in r7 (by decide)) dX11_constant_61 (fun J43 H locs eJ43 hH => ?_)
    replace hv := fnS hv eJ43
    have sm : Sm C ms_X11_constant (I, J, R) (I41, J43, R) := by rw [eJ43]; exact sm.stJ kb42 (mC_arr (by decide) rfl)
    refine lv_iload hx hb dX11_constant_62 (lv_at hl 0 rfl) ?_
    exact ret (0) _ _ _ _ _ _ _ dX11_constant_64 hH ⟨⟨oI, oR, sm⟩, rfl, (Rg_w (Rg_c (x := 0) (a := (0)) (b := (0)) (by decide)) (by decide)), (by intro ct mct kct; obtain ⟨ga0, gb0⟩ := r7; obtain ⟨ga1, gb1⟩ := r31; rw [hU ct mct b36 mb36 (kct.trans kb36.symm) (by rw [kct]; rfl)]; have h7 : I b36 x1.toNatClampNeg = y37 := (by rw [ey37, eI1, u2_ne (ne_role kb36 k0 (by decide))]); obtain ⟨o1, o2⟩ := con_0 (h := I b36) (s := x1) (z := x2) (v := x3) ⟨by omega, fun _ => (hp32.resolve_right (fun q => Rg_ne0 r35 (by decide) q.1)).2⟩ (by rw [h7]; obtain ⟨a7, a8⟩ := r40; omega); rw [o1, o2]; refine ⟨rfl, ?_⟩; show I41 b36 = _; have s44 : I1 b36 = I b36 := (by rw [eI1, u2_ne (ne_role kb36 k0 (by decide))]); have s45 : I41 b36 = up (I1 b36) _ _ := (by rw [eI41]; exact u2_up); rw [s45, s44]), (hT.symm.trans hv)⟩
  replace hv := fnN hv q38
  have l46 := Rg_ne q38
  have r47 : Rg y37 (1) (1) := Rg_nelo ry37 (Rg_ne q38) (Rg_c (x := 0) (a := (0)) (b := (0)) (by decide)) (by decide)
  refine lv_iconst (v := 1) hx hb dX11_constant_41 (by decide) ?_
  refine lv_goto (tgt := 46) hx hb dX11_constant_42 (by decide) ?_
  refine lv_istore (lv' := [(5, .int 1), (0, .ref a0), (1, .int x1), (2, .int x2), (3, .long x3)]) hx hb dX11_constant_46 hl (by decide) rfl (fun ls hl => ?_)
  refine lv_aload_n hx hb dX11_constant_48 rfl (lv_at hl 1 rfl) ?_
  refine gf_11_19 vb36 hx hb hts hown hH m0 k0 rfl kf_X11_59 dX11_constant_49 ?_
  refine lv_iload_n hx hb dX11_constant_52 rfl (lv_at hl 2 rfl) ?_
  refine lv_iload_n hx hb dX11_constant_53 rfl (lv_at hl 3 rfl) ?_
  refine st_80 hx hb hH mb36 kb36 (Rg_in r7 (by decide)) (Rg_01 (Rg_w r31 (by decide))) dX11_constant_54 (fun I48 H locs eI48 hH => ?_)
  replace hv := fnS hv eI48
  have oI : OkI L C I48 := by rw [eI48]; exact wr_80 oI kb36 (Rg_w r31 (by decide))
  have sm : Sm C ms_X11_constant (I, J, R) (I48, J, R) := by rw [eI48]; exact sm.stI kb36 (mC_arr (by decide) rfl)
  refine lv_aload_n hx hb dX11_constant_55 rfl (lv_at hl 1 rfl) ?_
  obtain ⟨b49, mb49, vb49, kb49⟩ := rf_11_20 oR m0 k0
  replace hv := fnR hv vb49
  refine gf_11_20 vb49 hx hb hts hown hH m0 k0 rfl kf_X11_62 dX11_constant_56 ?_
  refine lv_iload_n hx hb dX11_constant_59 rfl (lv_at hl 2 rfl) ?_
  refine lv_lload_n hx hb dX11_constant_60 rfl (lv_at hl 4 rfl) ?_
  refine st_81 hx hb hH mb49 kb49 (Rg_in r7 (by decide)) dX11_constant_61 (fun J50 H locs eJ50 hH => ?_)
  replace hv := fnS hv eJ50
  have sm : Sm C ms_X11_constant (I, J, R) (I48, J50, R) := by rw [eJ50]; exact sm.stJ kb49 (mC_arr (by decide) rfl)
  refine lv_iload hx hb dX11_constant_62 (lv_at hl 0 rfl) ?_
  exact ret (1) _ _ _ _ _ _ _ dX11_constant_64 hH ⟨⟨oI, oR, sm⟩, rfl, (Rg_w (Rg_c (x := 1) (a := (1)) (b := (1)) (by decide)) (by decide)), (by intro ct mct kct; obtain ⟨ga0, gb0⟩ := r7; obtain ⟨ga1, gb1⟩ := r31; rw [hU ct mct b36 mb36 (kct.trans kb36.symm) (by rw [kct]; rfl)]; have h7 : I b36 x1.toNatClampNeg = y37 := (by rw [ey37, eI1, u2_ne (ne_role kb36 k0 (by decide))]); obtain ⟨o1, o2⟩ := con_1 (h := I b36) (s := x1) (z := x2) (v := x3) ⟨by omega, fun _ => (hp32.resolve_right (fun q => Rg_ne0 r35 (by decide) q.1)).2⟩ (by rw [h7]; obtain ⟨a7, a8⟩ := r47; omega); rw [o1, o2]; refine ⟨rfl, ?_⟩; show I48 b36 = _; have s51 : I1 b36 = I b36 := (by rw [eI1, u2_ne (ne_role kb36 k0 (by decide))]); have s52 : I48 b36 = up (I1 b36) _ _ := (by rw [eI48]; exact u2_up); rw [s52, s51]), (hT.symm.trans hv)⟩
noncomputable def F_X11_costOf_203 (a0 : Nat) (x1 : Int32) (x2 : Int32) (y7 : Int32) (y3 : Int32) (y5 : Int32) (b1 : Nat) (b2 : Nat) (y4 : Int32) (y6 : Int32) (x3_176 : Int32) (x4_176 : Int32) (x5_176 : Int32) (k_176 : hI → hJ → hR → Int32 → Int32 → Int32 → (Int32)) (I : hI) (J : hJ) (R : hR) (xs0_203 : Int32) : Int32 :=
  nm (x3_176 + xs0_203) fun y8 => nm (x5_176 + (1 : Int32)) fun y9 => k_176 I J R y8 x4_176 y9
noncomputable def B_X11_costOf_176 (a0 : Nat) (x1 : Int32) (x2 : Int32) (y7 : Int32) (y3 : Int32) (y5 : Int32) (b1 : Nat) (b2 : Nat) (y4 : Int32) (y6 : Int32) (k_176 : hI → hJ → hR → Int32 → Int32 → Int32 → (Int32)) (I : hI) (J : hJ) (R : hR) (x3_176 : Int32) (x4_176 : Int32) (x5_176 : Int32) : Int32 :=
  nm ((R a0 10).getD 0) fun b10 => nm (I b10 (Int32.toNatClampNeg x1)) fun y11 => (if y11 ≤ x5_176 then x3_176 else nm (x4_176 >>> (x5_176 &&& 31)) fun y15 => nm (y15 &&& (1 : Int32)) fun y16 => (if y16 = (0 : Int32) then F_X11_costOf_203 a0 x1 x2 y7 y3 y5 b1 b2 y4 y6 x3_176 x4_176 x5_176 k_176 I J R (4 : Int32) else F_X11_costOf_203 a0 x1 x2 y7 y3 y5 b1 b2 y4 y6 x3_176 x4_176 x5_176 k_176 I J R (0 : Int32)))
noncomputable def F_X11_costOf_176 (a0 : Nat) (x1 : Int32) (x2 : Int32) (y7 : Int32) (y3 : Int32) (y5 : Int32) (b1 : Nat) (b2 : Nat) (y4 : Int32) (y6 : Int32) : Nat → hI → hJ → hR → Int32 → Int32 → Int32 → (Int32) := fun n => Nat.rec (motive := fun _ => hI → hJ → hR → Int32 → Int32 → Int32 → (Int32)) (fun _ _ _ _ _ _ => default) (fun _ k => B_X11_costOf_176 a0 x1 x2 y7 y3 y5 b1 b2 y4 y6 k) n
theorem F_X11_costOf_176_s {a0 : Nat} {x1 : Int32} {x2 : Int32} {y7 : Int32} {y3 : Int32} {y5 : Int32} {b1 : Nat} {b2 : Nat} {y4 : Int32} {y6 : Int32} {n : Nat} {I : hI} {J : hJ} {R : hR} {x3_176 : Int32} {x4_176 : Int32} {x5_176 : Int32} : F_X11_costOf_176 a0 x1 x2 y7 y3 y5 b1 b2 y4 y6 (n + 1)  I J R x3_176 x4_176 x5_176 = B_X11_costOf_176 a0 x1 x2 y7 y3 y5 b1 b2 y4 y6 (F_X11_costOf_176 a0 x1 x2 y7 y3 y5 b1 b2 y4 y6 n)  I J R x3_176 x4_176 x5_176 := rfl
noncomputable def F_X11_costOf_167 (a0 : Nat) (x1 : Int32) (x2 : Int32) (y7 : Int32) (y3 : Int32) (y5 : Int32) (b1 : Nat) (b2 : Nat) (y4 : Int32) (y6 : Int32) (x3_28 : Int32) (x4_28 : Int32) (x5_28 : Int32) (k_28 : hI → hJ → hR → Int32 → Int32 → Int32 → (Int32)) (I : hI) (J : hJ) (R : hR) (x3_167 : Int32) (x4_167 : Int32) : Int32 :=
  nm (x5_28 + (1 : Int32)) fun y20 => k_28 I J R x3_167 x4_167 y20
noncomputable def F_X11_costOf_164 (a0 : Nat) (x1 : Int32) (x2 : Int32) (y7 : Int32) (y3 : Int32) (y5 : Int32) (b1 : Nat) (b2 : Nat) (y4 : Int32) (y6 : Int32) (x3_28 : Int32) (x4_28 : Int32) (x5_28 : Int32) (k_28 : hI → hJ → hR → Int32 → Int32 → Int32 → (Int32)) (I : hI) (J : hJ) (R : hR) (xs0_164 : Int32) (xs1_164 : Int32) (x4_164 : Int32) : Int32 :=
  nm (xs1_164 + xs0_164) fun y21 => nm (x3_28 + y21) fun y22 => F_X11_costOf_167 a0 x1 x2 y7 y3 y5 b1 b2 y4 y6 x3_28 x4_28 x5_28 k_28 I J R y22 x4_164
noncomputable def F_X11_costOf_112 (a0 : Nat) (x1 : Int32) (x2 : Int32) (y7 : Int32) (y3 : Int32) (y5 : Int32) (b1 : Nat) (b2 : Nat) (y4 : Int32) (y6 : Int32) (x3_28 : Int32) (x4_28 : Int32) (x5_28 : Int32) (k_28 : hI → hJ → hR → Int32 → Int32 → Int32 → (Int32)) (I : hI) (J : hJ) (R : hR) : Int32 :=
  nm (x3_28 + (1000000 : Int32)) fun y23 => F_X11_costOf_167 a0 x1 x2 y7 y3 y5 b1 b2 y4 y6 x3_28 x4_28 x5_28 k_28 I J R y23 x4_28
noncomputable def F_X11_costOf_85 (a0 : Nat) (x1 : Int32) (x2 : Int32) (y7 : Int32) (y3 : Int32) (y5 : Int32) (b1 : Nat) (b2 : Nat) (y4 : Int32) (y6 : Int32) (x3_28 : Int32) (x4_28 : Int32) (x5_28 : Int32) (k_28 : hI → hJ → hR → Int32 → Int32 → Int32 → (Int32)) (I : hI) (J : hJ) (R : hR) (xs0_85 : Int32) : Int32 :=
  nm (x3_28 + xs0_85) fun y24 => F_X11_costOf_167 a0 x1 x2 y7 y3 y5 b1 b2 y4 y6 x3_28 x4_28 x5_28 k_28 I J R y24 x4_28
noncomputable def B_X11_costOf_28 (a0 : Nat) (x1 : Int32) (x2 : Int32) (y7 : Int32) (y3 : Int32) (y5 : Int32) (b1 : Nat) (b2 : Nat) (y4 : Int32) (y6 : Int32) (k_28 : hI → hJ → hR → Int32 → Int32 → Int32 → (Int32)) (I : hI) (J : hJ) (R : hR) (x3_28 : Int32) (x4_28 : Int32) (x5_28 : Int32) : Int32 :=
  nm ((R a0 10).getD 0) fun b25 => nm (I b25 (Int32.toNatClampNeg x2)) fun y26 => (if y26 ≤ x5_28 then F_X11_costOf_176 a0 x1 x2 y7 y3 y5 b1 b2 y4 y6 ((4 - (0 : Int32).toInt).toNat + 1) I J R x3_28 x4_28 (0 : Int32) else nm ((R a0 38).getD 0) fun b30 => nm (I b30 (Int32.toNatClampNeg x5_28)) fun y31 => nm ((R a0 11).getD 0) fun b32 => nm ((4 : Int32) * x2) fun y33 => nm (y33 + x5_28) fun y34 => nm (I b32 (Int32.toNatClampNeg y34)) fun y35 => (if y31 = (4 : Int32) then nm ((R a0 19).getD 0) fun b57 => nm (I b57 (Int32.toNatClampNeg y35)) fun y58 => (if y58 = (0 : Int32) then F_X11_costOf_85 a0 x1 x2 y7 y3 y5 b1 b2 y4 y6 x3_28 x4_28 x5_28 k_28 I J R (1000000 : Int32) else F_X11_costOf_85 a0 x1 x2 y7 y3 y5 b1 b2 y4 y6 x3_28 x4_28 x5_28 k_28 I J R (7 : Int32)) else nm (I b25 (Int32.toNatClampNeg x1)) fun y38 => (if y38 ≤ y31 then F_X11_costOf_112 a0 x1 x2 y7 y3 y5 b1 b2 y4 y6 x3_28 x4_28 x5_28 k_28 I J R else nm (x4_28 >>> (y31 &&& 31)) fun y42 => nm (y42 &&& (1 : Int32)) fun y43 => (if y43 = (1 : Int32) then F_X11_costOf_112 a0 x1 x2 y7 y3 y5 b1 b2 y4 y6 x3_28 x4_28 x5_28 k_28 I J R else nm ((1 : Int32) <<< (y31 &&& 31)) fun y46 => nm (x4_28 ||| y46) fun y47 => nm ((4 : Int32) * x1) fun y48 => nm (y48 + y31) fun y49 => nm (I b32 (Int32.toNatClampNeg y49)) fun y50 => nm ((7 : Int32) * y50) fun y51 => nm (y51 + y35) fun y52 => nm (I b1 (Int32.toNatClampNeg y52)) fun y53 => (if x5_28 = y31 then F_X11_costOf_164 a0 x1 x2 y7 y3 y5 b1 b2 y4 y6 x3_28 x4_28 x5_28 k_28 I J R (0 : Int32) y53 y47 else F_X11_costOf_164 a0 x1 x2 y7 y3 y5 b1 b2 y4 y6 x3_28 x4_28 x5_28 k_28 I J R (1 : Int32) y53 y47)))))
noncomputable def F_X11_costOf_28 (a0 : Nat) (x1 : Int32) (x2 : Int32) (y7 : Int32) (y3 : Int32) (y5 : Int32) (b1 : Nat) (b2 : Nat) (y4 : Int32) (y6 : Int32) : Nat → hI → hJ → hR → Int32 → Int32 → Int32 → (Int32) := fun n => Nat.rec (motive := fun _ => hI → hJ → hR → Int32 → Int32 → Int32 → (Int32)) (fun _ _ _ _ _ _ => default) (fun _ k => B_X11_costOf_28 a0 x1 x2 y7 y3 y5 b1 b2 y4 y6 k) n
theorem F_X11_costOf_28_s {a0 : Nat} {x1 : Int32} {x2 : Int32} {y7 : Int32} {y3 : Int32} {y5 : Int32} {b1 : Nat} {b2 : Nat} {y4 : Int32} {y6 : Int32} {n : Nat} {I : hI} {J : hJ} {R : hR} {x3_28 : Int32} {x4_28 : Int32} {x5_28 : Int32} : F_X11_costOf_28 a0 x1 x2 y7 y3 y5 b1 b2 y4 y6 (n + 1)  I J R x3_28 x4_28 x5_28 = B_X11_costOf_28 a0 x1 x2 y7 y3 y5 b1 b2 y4 y6 (F_X11_costOf_28 a0 x1 x2 y7 y3 y5 b1 b2 y4 y6 n)  I J R x3_28 x4_28 x5_28 := rfl
noncomputable def F_X11_costOf (a0 : Nat) (x1 : Int32) (x2 : Int32) (I : hI) (J : hJ) (R : hR) : Int32 :=
  nm ((R a0 32).getD 0) fun b1 => nm ((R a0 12).getD 0) fun b2 => nm (I b2 (Int32.toNatClampNeg x2)) fun y3 => nm ((7 : Int32) * y3) fun y4 => nm (I b2 (Int32.toNatClampNeg x1)) fun y5 => nm (y4 + y5) fun y6 => nm (I b1 (Int32.toNatClampNeg y6)) fun y7 => F_X11_costOf_28 a0 x1 x2 y7 y3 y5 b1 b2 y4 y6 ((4 - (0 : Int32).toInt).toNat + 1) I J R y7 (0 : Int32) (0 : Int32)
set_option maxHeartbeats 4000000 in
set_option maxRecDepth 100000 in
theorem c_X11_costOf {l : Launch} {D : va_G} {cy : Nat → ClassId} {L : List Nat} {C : Nat → Nat} {b0 : Nat} {I : hI} {J : hJ} {R : hR} {a0 : Nat} {x1 : Int32} {x2 : Int32} (oI : OkI L C I) (oR : OkR L C R) (m0 : a0 ∈ L) (k0 : C a0 = 11) (h1 : Rg x1 (0) (119)) (h2 : Rg x2 (0) (119)) : CI l yX11_costOf cX11_costOf 8 .int 0 D cy L C b0 [.ref a0, .int x1, .int x2] (I, J, R) (fun r v => v.1 = I ∧ v.2.1 = J ∧ v.2.2 = R ∧ F_X11_costOf a0 x1 x2 I J R = r) := by
  refine CI.mkI (plainFor_of_name (by decide)) (Nat.le_of_ble_eq_true rfl) ?_
  intro p e s m args below meth c ls Q hF ret hH hl
  obtain ⟨hx, hb, -, hml, hown, hts, -⟩ := hF
  have hl : lv_has ls 8 [(0, .ref a0), (1, .int x1), (2, .int x2)] := hl
  have hH : Hp D cy L C b0 s s.heap I J R s.heap [] := hH
  obtain ⟨TT0, hT⟩ : ∃ TT0, TT0 = F_X11_costOf a0 x1 x2 I J R := ⟨_, rfl⟩
  have hv := hT
  unfold F_X11_costOf at hv
  refine lv_aload_n hx hb dX11_costOf_0 rfl (lv_at hl 0 rfl) ?_
  obtain ⟨b1, mb1, vb1, kb1⟩ := rf_11_32 oR m0 k0
  replace hv := fnR hv vb1
  refine gf_11_32 vb1 hx hb hts hown hH m0 k0 rfl kf_X11_75 dX11_costOf_1 ?_
  refine lv_bipush (v := 7) hx hb dX11_costOf_4 (by decide) ?_
  refine lv_aload_n hx hb dX11_costOf_6 rfl (lv_at hl 0 rfl) ?_
  obtain ⟨b2, mb2, vb2, kb2⟩ := rf_11_12 oR m0 k0
  replace hv := fnR hv vb2
  refine gf_11_12 vb2 hx hb hts hown hH m0 k0 rfl kf_X11_41 dX11_costOf_7 ?_
  refine lv_iload_n hx hb dX11_costOf_10 rfl (lv_at hl 2 rfl) ?_
  refine ld_74 hx hb hH mb2 kb2 (Rg_in h2 (by decide)) dX11_costOf_11 ?_
  refine lv_topi (fun y3 ey3 => ?_)
  have ry3 : Rg y3 (0) (6) := by rw [ey3]; exact rd_74 oI mb2 kb2 (Rg_in h2 (by decide))
  replace hv := fnS hv ey3
  refine lv_imul hx hb dX11_costOf_12 ?_
  refine lv_topi (fun y4 ey4 => ?_)
  replace hv := fnS hv ey4
  obtain ⟨ty4, ry4⟩ := Rg_mulx (a' := (0)) (b' := (42)) (by decide : Int32.toInt 7 = 7) (rfl : y3.toInt = _) (Rg_c (x := 7) (a := (7)) (b := (7)) (by decide)) ry3 (by decide)
  rw [← ey4] at ty4 ry4
  refine lv_aload_n hx hb dX11_costOf_13 rfl (lv_at hl 0 rfl) ?_
  refine gf_11_12 vb2 hx hb hts hown hH m0 k0 rfl kf_X11_41 dX11_costOf_14 ?_
  refine lv_iload_n hx hb dX11_costOf_17 rfl (lv_at hl 1 rfl) ?_
  refine ld_74 hx hb hH mb2 kb2 (Rg_in h1 (by decide)) dX11_costOf_18 ?_
  refine lv_topi (fun y5 ey5 => ?_)
  have ry5 : Rg y5 (0) (6) := by rw [ey5]; exact rd_74 oI mb2 kb2 (Rg_in h1 (by decide))
  replace hv := fnS hv ey5
  refine lv_iadd hx hb dX11_costOf_19 ?_
  refine lv_topi (fun y6 ey6 => ?_)
  replace hv := fnS hv ey6
  obtain ⟨ty6, ry6⟩ := Rg_addx (a' := (0)) (b' := (48)) (rfl : y4.toInt = _) (rfl : y5.toInt = _) ry4 ry5 (by decide)
  rw [← ey6] at ty6 ry6
  refine ld_85 hx hb hH mb1 kb1 (Rg_in ry6 (by decide)) dX11_costOf_20 ?_
  refine lv_topi (fun y7 ey7 => ?_)
  replace hv := fnS hv ey7
  refine lv_istore_n (lv' := [(3, .int y7), (0, .ref a0), (1, .int x1), (2, .int x2)]) hx hb dX11_costOf_21 rfl hl (by decide) rfl (fun ls hl => ?_)
  refine lv_iconst (v := 0) hx hb dX11_costOf_22 (by decide) ?_
  refine lv_istore (lv' := [(4, .int 0), (3, .int y7), (0, .ref a0), (1, .int x1), (2, .int x2)]) hx hb dX11_costOf_23 hl (by decide) rfl (fun ls hl => ?_)
  refine lv_iconst (v := 0) hx hb dX11_costOf_25 (by decide) ?_
  refine lv_istore (lv' := [(5, .int 0), (4, .int 0), (3, .int y7), (0, .ref a0), (1, .int x1), (2, .int x2)]) hx hb dX11_costOf_26 hl (by decide) rfl (fun ls hl => ?_)
  have L_176 : ∀ (n_176 : Nat) (H : Heap) (locs : List Loc) (ls : Array Slot) (x3_176 : Int32) (x4_176 : Int32) (x5_176 : Int32), (4 - x5_176.toInt).toNat < n_176 → Hp D cy L C b0 s s.heap I J R H locs → TT0 = F_X11_costOf_176 a0 x1 x2 y7 y3 y5 b1 b2 y4 y6 n_176 I J R x3_176 x4_176 x5_176 → Rg x1 (0) (119) → Rg x5_176 (0) (4) → lv_has ls 8 [(0, .ref a0), (1, .int x1), (3, .int x3_176), (4, .int x4_176), (5, .int x5_176)] → W p l e (rmD 0) s m args below meth c H locs 0 0 Q (F0 m 176 ls []) := by
    intro n_176
    induction n_176 with
    | zero => intro H locs ls x3_176 x4_176 x5_176 h; exact absurd h (Nat.not_lt_zero _)
    | succ n_176 ih_176 =>
      intro H locs ls x3_176 x4_176 x5_176 hn_176 hH hv r1_176 r5_176 hl
      replace hv := hv.trans F_X11_costOf_176_s
      unfold B_X11_costOf_176 at hv
      have L_203 : ∀ (H : Heap) (locs : List Loc) (ls : Array Slot) (xs0_203 : Int32), Hp D cy L C b0 s s.heap I J R H locs → TT0 = F_X11_costOf_203 a0 x1 x2 y7 y3 y5 b1 b2 y4 y6 x3_176 x4_176 x5_176 (F_X11_costOf_176 a0 x1 x2 y7 y3 y5 b1 b2 y4 y6 n_176) I J R xs0_203 → Rg xs0_203 (0) (4) → Rg x1 (0) (119) → Rg x5_176 (0) (3) → lv_has ls 8 [(0, .ref a0), (1, .int x1), (4, .int x4_176), (5, .int x5_176)] → W p l e (rmD 0) s m args below meth c H locs 0 0 Q (F0 m 203 ls [.int xs0_203, .int x3_176]) := by
        intro H locs ls xs0_203 hH hv rs0_203 r1_203 r5_203 hl
        unfold F_X11_costOf_203 at hv
        refine lv_iadd hx hb dX11_costOf_203 ?_
        refine lv_topi (fun y8 ey8 => ?_)
        replace hv := fnS hv ey8
        refine lv_istore_n (lv' := [(3, .int y8), (0, .ref a0), (1, .int x1), (4, .int x4_176), (5, .int x5_176)]) hx hb dX11_costOf_204 rfl hl (by decide) rfl (fun ls hl => ?_)
        obtain ⟨y9, ey9⟩ : ∃ y : Int32, y = x5_176 + 1 := ⟨_, rfl⟩
        replace hv := fnS hv ey9
        obtain ⟨ty9, ry9⟩ := Rg_addx (a' := (1)) (b' := (4)) (rfl : x5_176.toInt = _) (by decide : Int32.toInt 1 = 1) r5_203 (Rg_c (x := 1) (a := (1)) (b := (1)) (by decide)) (by decide)
        rw [← ey9] at ty9 ry9
        refine lv_iinc (v := y9) (lv' := [(5, .int y9), (3, .int y8), (0, .ref a0), (1, .int x1), (4, .int x4_176)]) hx hb dX11_costOf_205 hl (k := 4) rfl (by rw [ey9]; rfl) (by decide) rfl (fun ls hl => ?_)
        refine lv_goto (tgt := 176) hx hb dX11_costOf_208 (by decide) ?_
        exact ih_176 _ _ _ y8 x4_176 y9 (lp_up hn_176 ty9 (Rg_ltc r5_203 (by decide))) hH hv r1_203 (Rg_w ry9 (by decide)) (lv_sub hl [2, 3, 1, 4, 0] rfl)
      refine lv_iload hx hb dX11_costOf_176 (lv_at hl 4 rfl) ?_
      refine lv_aload_n hx hb dX11_costOf_178 rfl (lv_at hl 0 rfl) ?_
      obtain ⟨b10, mb10, vb10, kb10⟩ := rf_11_10 oR m0 k0
      replace hv := fnR hv vb10
      refine gf_11_10 vb10 hx hb hts hown hH m0 k0 rfl kf_X11_35 dX11_costOf_179 ?_
      refine lv_iload_n hx hb dX11_costOf_182 rfl (lv_at hl 1 rfl) ?_
      refine ld_72 hx hb hH mb10 kb10 (Rg_in r1_176 (by decide)) dX11_costOf_183 ?_
      refine lv_topi (fun y11 ey11 => ?_)
      have ry11 : Rg y11 (0) (4) := by rw [ey11]; exact rd_72 oI mb10 kb10 (Rg_in r1_176 (by decide))
      replace hv := fnS hv ey11
      refine lv_icmp_ge (tgt := 211) hx hb dX11_costOf_184 (by decide) (fun q12 => ?_) (fun q12 => ?_)
      · replace hv := fnP hv q12
        refine lv_iload_n hx hb dX11_costOf_211 rfl (lv_at hl 2 rfl) ?_
        exact ret (x3_176) _ _ _ _ _ _ _ dX11_costOf_212 hH ⟨rfl, rfl, rfl, (hT.symm.trans hv)⟩
      replace hv := fnN hv q12
      have r13 : Rg x5_176 (0) (3) := Rg_ult r5_176 (Rg_nle q12) ry11 (by decide)
      have r14 : Rg y11 (1) (4) := Rg_llt ry11 (Rg_nle q12) r5_176 (by decide)
      refine lv_iload_n hx hb dX11_costOf_187 rfl (lv_at hl 2 rfl) ?_
      refine lv_iload hx hb dX11_costOf_188 (lv_at hl 3 rfl) ?_
      refine lv_iload hx hb dX11_costOf_190 (lv_at hl 4 rfl) ?_
      refine lv_ishr hx hb dX11_costOf_192 ?_
      refine lv_topi (fun y15 ey15 => ?_)
      replace hv := fnS hv ey15
      refine lv_iconst (v := 1) hx hb dX11_costOf_193 (by decide) ?_
      refine lv_iand hx hb dX11_costOf_194 ?_
      refine lv_topi (fun y16 ey16 => ?_)
      replace hv := fnS hv ey16
      have ry16 : Rg y16 0 1 := by rw [ey16]; exact Rg_and1 _
      refine lv_if_ne (tgt := 202) hx hb dX11_costOf_195 (by decide) (fun q17 => ?_) (fun q17 => ?_)
      · replace hv := fnN hv q17
        have r18 : Rg y16 (1) (1) := Rg_nelo ry16 (Rg_ne q17) (Rg_c (x := 0) (a := (0)) (b := (0)) (by decide)) (by decide)
        refine lv_iconst (v := 0) hx hb dX11_costOf_202 (by decide) ?_
        exact L_203 _ _ _ 0 hH hv (Rg_w (Rg_c (x := 0) (a := (0)) (b := (0)) (by decide)) (by decide)) r1_176 r13 (lv_sub hl [0, 1, 3, 4] rfl)
      replace hv := fnP hv q17
      have r19 : Rg y16 (0) (0) := Rg_both ry16 (Rg_eqv q17 (Rg_c (x := 0) (a := (0)) (b := (0)) (by decide))) (by decide)
      refine lv_iconst (v := 4) hx hb dX11_costOf_198 (by decide) ?_
      refine lv_goto (tgt := 203) hx hb dX11_costOf_199 (by decide) ?_
      exact L_203 _ _ _ 4 hH hv (Rg_w (Rg_c (x := 4) (a := (4)) (b := (4)) (by decide)) (by decide)) r1_176 r13 (lv_sub hl [0, 1, 3, 4] rfl)
  have L_28 : ∀ (n_28 : Nat) (H : Heap) (locs : List Loc) (ls : Array Slot) (x3_28 : Int32) (x4_28 : Int32) (x5_28 : Int32), (4 - x5_28.toInt).toNat < n_28 → Hp D cy L C b0 s s.heap I J R H locs → TT0 = F_X11_costOf_28 a0 x1 x2 y7 y3 y5 b1 b2 y4 y6 n_28 I J R x3_28 x4_28 x5_28 → Rg x1 (0) (119) → Rg x2 (0) (119) → Rg x5_28 (0) (4) → lv_has ls 8 [(0, .ref a0), (1, .int x1), (2, .int x2), (3, .int x3_28), (4, .int x4_28), (5, .int x5_28)] → W p l e (rmD 0) s m args below meth c H locs 0 0 Q (F0 m 28 ls []) := by
    intro n_28
    induction n_28 with
    | zero => intro H locs ls x3_28 x4_28 x5_28 h; exact absurd h (Nat.not_lt_zero _)
    | succ n_28 ih_28 =>
      intro H locs ls x3_28 x4_28 x5_28 hn_28 hH hv r1_28 r2_28 r5_28 hl
      replace hv := hv.trans F_X11_costOf_28_s
      unfold B_X11_costOf_28 at hv
      have L_167 : ∀ (H : Heap) (locs : List Loc) (ls : Array Slot) (x3_167 : Int32) (x4_167 : Int32), Hp D cy L C b0 s s.heap I J R H locs → TT0 = F_X11_costOf_167 a0 x1 x2 y7 y3 y5 b1 b2 y4 y6 x3_28 x4_28 x5_28 (F_X11_costOf_28 a0 x1 x2 y7 y3 y5 b1 b2 y4 y6 n_28) I J R x3_167 x4_167 → Rg x1 (0) (119) → Rg x2 (0) (119) → Rg x5_28 (0) (3) → lv_has ls 8 [(0, .ref a0), (1, .int x1), (2, .int x2), (3, .int x3_167), (4, .int x4_167), (5, .int x5_28)] → W p l e (rmD 0) s m args below meth c H locs 0 0 Q (F0 m 167 ls []) := by
        intro H locs ls x3_167 x4_167 hH hv r1_167 r2_167 r5_167 hl
        unfold F_X11_costOf_167 at hv
        obtain ⟨y20, ey20⟩ : ∃ y : Int32, y = x5_28 + 1 := ⟨_, rfl⟩
        replace hv := fnS hv ey20
        obtain ⟨ty20, ry20⟩ := Rg_addx (a' := (1)) (b' := (4)) (rfl : x5_28.toInt = _) (by decide : Int32.toInt 1 = 1) r5_167 (Rg_c (x := 1) (a := (1)) (b := (1)) (by decide)) (by decide)
        rw [← ey20] at ty20 ry20
        refine lv_iinc (v := y20) (lv' := [(5, .int y20), (0, .ref a0), (1, .int x1), (2, .int x2), (3, .int x3_167), (4, .int x4_167)]) hx hb dX11_costOf_167 hl (k := 5) rfl (by rw [ey20]; rfl) (by decide) rfl (fun ls hl => ?_)
        refine lv_goto (tgt := 28) hx hb dX11_costOf_170 (by decide) ?_
        exact ih_28 _ _ _ x3_167 x4_167 y20 (lp_up hn_28 ty20 (Rg_ltc r5_167 (by decide))) hH hv r1_167 r2_167 (Rg_w ry20 (by decide)) (lv_sub hl [1, 2, 3, 4, 5, 0] rfl)
      have L_164 : ∀ (H : Heap) (locs : List Loc) (ls : Array Slot) (xs0_164 : Int32) (xs1_164 : Int32) (x4_164 : Int32), Hp D cy L C b0 s s.heap I J R H locs → TT0 = F_X11_costOf_164 a0 x1 x2 y7 y3 y5 b1 b2 y4 y6 x3_28 x4_28 x5_28 (F_X11_costOf_28 a0 x1 x2 y7 y3 y5 b1 b2 y4 y6 n_28) I J R xs0_164 xs1_164 x4_164 → Rg xs0_164 (0) (1) → Rg x1 (0) (119) → Rg x2 (0) (119) → Rg x5_28 (0) (3) → lv_has ls 8 [(0, .ref a0), (1, .int x1), (2, .int x2), (4, .int x4_164), (5, .int x5_28)] → W p l e (rmD 0) s m args below meth c H locs 0 0 Q (F0 m 164 ls [.int xs0_164, .int xs1_164, .int x3_28]) := by
        intro H locs ls xs0_164 xs1_164 x4_164 hH hv rs0_164 r1_164 r2_164 r5_164 hl
        unfold F_X11_costOf_164 at hv
        refine lv_iadd hx hb dX11_costOf_164 ?_
        refine lv_topi (fun y21 ey21 => ?_)
        replace hv := fnS hv ey21
        refine lv_iadd hx hb dX11_costOf_165 ?_
        refine lv_topi (fun y22 ey22 => ?_)
        replace hv := fnS hv ey22
        refine lv_istore_n (lv' := [(3, .int y22), (0, .ref a0), (1, .int x1), (2, .int x2), (4, .int x4_164), (5, .int x5_28)]) hx hb dX11_costOf_166 rfl hl (by decide) rfl (fun ls hl => ?_)
        exact L_167 _ _ _ y22 x4_164 hH hv r1_164 r2_164 r5_164 (lv_sub hl [1, 2, 3, 0, 4, 5] rfl)
      have L_112 : ∀ (H : Heap) (locs : List Loc) (ls : Array Slot), Hp D cy L C b0 s s.heap I J R H locs → TT0 = F_X11_costOf_112 a0 x1 x2 y7 y3 y5 b1 b2 y4 y6 x3_28 x4_28 x5_28 (F_X11_costOf_28 a0 x1 x2 y7 y3 y5 b1 b2 y4 y6 n_28) I J R → Rg x1 (0) (119) → Rg x2 (0) (119) → Rg x5_28 (0) (3) → lv_has ls 8 [(0, .ref a0), (1, .int x1), (2, .int x2), (3, .int x3_28), (4, .int x4_28), (5, .int x5_28)] → W p l e (rmD 0) s m args below meth c H locs 0 0 Q (F0 m 112 ls []) := by
        intro H locs ls hH hv r1_112 r2_112 r5_112 hl
        unfold F_X11_costOf_112 at hv
        refine lv_iload_n hx hb dX11_costOf_112 rfl (lv_at hl 3 rfl) ?_
        refine lv_ldc (v := 1000000) hx hb hown (hts _ kk_X11_180) dX11_costOf_113 ?_
        refine lv_iadd hx hb dX11_costOf_115 ?_
        refine lv_topi (fun y23 ey23 => ?_)
        replace hv := fnS hv ey23
        refine lv_istore_n (lv' := [(3, .int y23), (0, .ref a0), (1, .int x1), (2, .int x2), (4, .int x4_28), (5, .int x5_28)]) hx hb dX11_costOf_116 rfl hl (by decide) rfl (fun ls hl => ?_)
        refine lv_goto (tgt := 167) hx hb dX11_costOf_117 (by decide) ?_
        exact L_167 _ _ _ y23 x4_28 hH hv r1_112 r2_112 r5_112 (lv_sub hl [1, 2, 3, 0, 4, 5] rfl)
      have L_85 : ∀ (H : Heap) (locs : List Loc) (ls : Array Slot) (xs0_85 : Int32), Hp D cy L C b0 s s.heap I J R H locs → TT0 = F_X11_costOf_85 a0 x1 x2 y7 y3 y5 b1 b2 y4 y6 x3_28 x4_28 x5_28 (F_X11_costOf_28 a0 x1 x2 y7 y3 y5 b1 b2 y4 y6 n_28) I J R xs0_85 → Rg xs0_85 (7) (1000000) → Rg x1 (0) (119) → Rg x2 (0) (119) → Rg x5_28 (0) (3) → lv_has ls 8 [(0, .ref a0), (1, .int x1), (2, .int x2), (4, .int x4_28), (5, .int x5_28)] → W p l e (rmD 0) s m args below meth c H locs 0 0 Q (F0 m 85 ls [.int xs0_85, .int x3_28]) := by
        intro H locs ls xs0_85 hH hv rs0_85 r1_85 r2_85 r5_85 hl
        unfold F_X11_costOf_85 at hv
        refine lv_iadd hx hb dX11_costOf_85 ?_
        refine lv_topi (fun y24 ey24 => ?_)
        replace hv := fnS hv ey24
        refine lv_istore_n (lv' := [(3, .int y24), (0, .ref a0), (1, .int x1), (2, .int x2), (4, .int x4_28), (5, .int x5_28)]) hx hb dX11_costOf_86 rfl hl (by decide) rfl (fun ls hl => ?_)
        refine lv_goto (tgt := 167) hx hb dX11_costOf_87 (by decide) ?_
        exact L_167 _ _ _ y24 x4_28 hH hv r1_85 r2_85 r5_85 (lv_sub hl [1, 2, 3, 0, 4, 5] rfl)
      refine lv_iload hx hb dX11_costOf_28 (lv_at hl 5 rfl) ?_
      refine lv_aload_n hx hb dX11_costOf_30 rfl (lv_at hl 0 rfl) ?_
      obtain ⟨b25, mb25, vb25, kb25⟩ := rf_11_10 oR m0 k0
      replace hv := fnR hv vb25
      refine gf_11_10 vb25 hx hb hts hown hH m0 k0 rfl kf_X11_35 dX11_costOf_31 ?_
      refine lv_iload_n hx hb dX11_costOf_34 rfl (lv_at hl 2 rfl) ?_
      refine ld_72 hx hb hH mb25 kb25 (Rg_in r2_28 (by decide)) dX11_costOf_35 ?_
      refine lv_topi (fun y26 ey26 => ?_)
      have ry26 : Rg y26 (0) (4) := by rw [ey26]; exact rd_72 oI mb25 kb25 (Rg_in r2_28 (by decide))
      replace hv := fnS hv ey26
      refine lv_icmp_ge (tgt := 173) hx hb dX11_costOf_36 (by decide) (fun q27 => ?_) (fun q27 => ?_)
      · replace hv := fnP hv q27
        refine lv_iconst (v := 0) hx hb dX11_costOf_173 (by decide) ?_
        refine lv_istore (lv' := [(5, .int 0), (0, .ref a0), (1, .int x1), (2, .int x2), (3, .int x3_28), (4, .int x4_28)]) hx hb dX11_costOf_174 hl (by decide) rfl (fun ls hl => ?_)
        exact L_176 ((4 - (0 : Int32).toInt).toNat + 1) _ _ _ x3_28 x4_28 0 (Nat.lt_succ_self _) hH hv r1_28 (Rg_w (Rg_c (x := 0) (a := (0)) (b := (0)) (by decide)) (by decide)) (lv_sub hl [1, 2, 4, 5, 0] rfl)
      replace hv := fnN hv q27
      have r28 : Rg x5_28 (0) (3) := Rg_ult r5_28 (Rg_nle q27) ry26 (by decide)
      have r29 : Rg y26 (1) (4) := Rg_llt ry26 (Rg_nle q27) r5_28 (by decide)
      refine lv_aload_n hx hb dX11_costOf_39 rfl (lv_at hl 0 rfl) ?_
      obtain ⟨b30, mb30, vb30, kb30⟩ := rf_11_38 oR m0 k0
      replace hv := fnR hv vb30
      refine gf_11_38 vb30 hx hb hts hown hH m0 k0 rfl kf_X11_90 dX11_costOf_40 ?_
      refine lv_iload hx hb dX11_costOf_43 (lv_at hl 5 rfl) ?_
      refine ld_90 hx hb hH mb30 kb30 (Rg_in r28 (by decide)) dX11_costOf_45 ?_
      refine lv_topi (fun y31 ey31 => ?_)
      have ry31 : Rg y31 (0) (4) := by rw [ey31]; exact rd_90 oI mb30 kb30 (Rg_in r28 (by decide))
      replace hv := fnS hv ey31
      refine lv_istore (lv' := [(6, .int y31), (0, .ref a0), (1, .int x1), (2, .int x2), (3, .int x3_28), (4, .int x4_28), (5, .int x5_28)]) hx hb dX11_costOf_46 hl (by decide) rfl (fun ls hl => ?_)
      refine lv_aload_n hx hb dX11_costOf_48 rfl (lv_at hl 1 rfl) ?_
      obtain ⟨b32, mb32, vb32, kb32⟩ := rf_11_11 oR m0 k0
      replace hv := fnR hv vb32
      refine gf_11_11 vb32 hx hb hts hown hH m0 k0 rfl kf_X11_38 dX11_costOf_49 ?_
      refine lv_iconst (v := 4) hx hb dX11_costOf_52 (by decide) ?_
      refine lv_iload_n hx hb dX11_costOf_53 rfl (lv_at hl 3 rfl) ?_
      refine lv_imul hx hb dX11_costOf_54 ?_
      refine lv_topi (fun y33 ey33 => ?_)
      replace hv := fnS hv ey33
      obtain ⟨ty33, ry33⟩ := Rg_mulx (a' := (0)) (b' := (476)) (by decide : Int32.toInt 4 = 4) (rfl : x2.toInt = _) (Rg_c (x := 4) (a := (4)) (b := (4)) (by decide)) r2_28 (by decide)
      rw [← ey33] at ty33 ry33
      refine lv_iload hx hb dX11_costOf_55 (lv_at hl 6 rfl) ?_
      refine lv_iadd hx hb dX11_costOf_57 ?_
      refine lv_topi (fun y34 ey34 => ?_)
      replace hv := fnS hv ey34
      obtain ⟨ty34, ry34⟩ := Rg_addx (a' := (0)) (b' := (479)) (rfl : y33.toInt = _) (rfl : x5_28.toInt = _) ry33 r28 (by decide)
      rw [← ey34] at ty34 ry34
      refine ld_73 hx hb hH mb32 kb32 (Rg_in ry34 (by decide)) dX11_costOf_58 ?_
      refine lv_topi (fun y35 ey35 => ?_)
      have ry35 : Rg y35 (0) (6) := by rw [ey35]; exact rd_73 oI mb32 kb32 (Rg_in ry34 (by decide))
      replace hv := fnS hv ey35
      refine lv_istore (lv' := [(7, .int y35), (6, .int y31), (0, .ref a0), (1, .int x1), (2, .int x2), (3, .int x3_28), (4, .int x4_28), (5, .int x5_28)]) hx hb dX11_costOf_59 hl (by decide) rfl (fun ls hl => ?_)
      refine lv_iload hx hb dX11_costOf_61 (lv_at hl 1 rfl) ?_
      refine lv_iconst (v := 4) hx hb dX11_costOf_63 (by decide) ?_
      refine lv_icmp_ne (tgt := 90) hx hb dX11_costOf_64 (by decide) (fun q36 => ?_) (fun q36 => ?_)
      rotate_left
      · replace hv := fnP hv q36
        have r56 : Rg y31 (4) (4) := Rg_both ry31 (Rg_eqv q36 (Rg_c (x := 4) (a := (4)) (b := (4)) (by decide))) (by decide)
        refine lv_iload_n hx hb dX11_costOf_67 rfl (lv_at hl 5 rfl) ?_
        refine lv_aload_n hx hb dX11_costOf_68 rfl (lv_at hl 2 rfl) ?_
        obtain ⟨b57, mb57, vb57, kb57⟩ := rf_11_19 oR m0 k0
        replace hv := fnR hv vb57
        refine gf_11_19 vb57 hx hb hts hown hH m0 k0 rfl kf_X11_59 dX11_costOf_69 ?_
        refine lv_iload hx hb dX11_costOf_72 (lv_at hl 0 rfl) ?_
        refine ld_80 hx hb hH mb57 kb57 (Rg_in ry35 (by decide)) dX11_costOf_74 ?_
        refine lv_topi (fun y58 ey58 => ?_)
        have ry58 : Rg y58 (0) (1) := by rw [ey58]; exact rd_80 oI mb57 kb57 (Rg_in ry35 (by decide))
        replace hv := fnS hv ey58
        refine lv_if_eq (tgt := 83) hx hb dX11_costOf_75 (by decide) (fun q59 => ?_) (fun q59 => ?_)
        · replace hv := fnP hv q59
          have r60 : Rg y58 (0) (0) := Rg_both ry58 (Rg_eqv q59 (Rg_c (x := 0) (a := (0)) (b := (0)) (by decide))) (by decide)
          refine lv_ldc (v := 1000000) hx hb hown (hts _ kk_X11_180) dX11_costOf_83 ?_
          exact L_85 _ _ _ 1000000 hH hv (Rg_w (Rg_c (x := 1000000) (a := (1000000)) (b := (1000000)) (by decide)) (by decide)) r1_28 r2_28 r28 (lv_sub hl [2, 3, 4, 6, 7] rfl)
        replace hv := fnN hv q59
        have r61 : Rg y58 (1) (1) := Rg_nelo ry58 (Rg_ne q59) (Rg_c (x := 0) (a := (0)) (b := (0)) (by decide)) (by decide)
        refine lv_bipush (v := 7) hx hb dX11_costOf_78 (by decide) ?_
        refine lv_goto (tgt := 85) hx hb dX11_costOf_80 (by decide) ?_
        exact L_85 _ _ _ 7 hH hv (Rg_w (Rg_c (x := 7) (a := (7)) (b := (7)) (by decide)) (by decide)) r1_28 r2_28 r28 (lv_sub hl [2, 3, 4, 6, 7] rfl)
      replace hv := fnN hv q36
      have r37 : Rg y31 (0) (3) := Rg_nehi ry31 (Rg_ne q36) (Rg_c (x := 4) (a := (4)) (b := (4)) (by decide)) (by decide)
      refine lv_iload hx hb dX11_costOf_90 (lv_at hl 1 rfl) ?_
      refine lv_aload_n hx hb dX11_costOf_92 rfl (lv_at hl 2 rfl) ?_
      refine gf_11_10 vb25 hx hb hts hown hH m0 k0 rfl kf_X11_35 dX11_costOf_93 ?_
      refine lv_iload_n hx hb dX11_costOf_96 rfl (lv_at hl 3 rfl) ?_
      refine ld_72 hx hb hH mb25 kb25 (Rg_in r1_28 (by decide)) dX11_costOf_97 ?_
      refine lv_topi (fun y38 ey38 => ?_)
      have ry38 : Rg y38 (0) (4) := by rw [ey38]; exact rd_72 oI mb25 kb25 (Rg_in r1_28 (by decide))
      replace hv := fnS hv ey38
      refine lv_icmp_ge (tgt := 112) hx hb dX11_costOf_98 (by decide) (fun q39 => ?_) (fun q39 => ?_)
      · replace hv := fnP hv q39
        have r40 : Rg y38 (0) (3) := Rg_ule ry38 (Rg_le q39) r37 (by decide)
        exact L_112 _ _ _ hH hv r1_28 r2_28 r28 (lv_sub hl [2, 3, 4, 5, 6, 7] rfl)
      replace hv := fnN hv q39
      have r41 : Rg y38 (1) (4) := Rg_llt ry38 (Rg_nle q39) r37 (by decide)
      refine lv_iload hx hb dX11_costOf_101 (lv_at hl 6 rfl) ?_
      refine lv_iload hx hb dX11_costOf_103 (lv_at hl 1 rfl) ?_
      refine lv_ishr hx hb dX11_costOf_105 ?_
      refine lv_topi (fun y42 ey42 => ?_)
      replace hv := fnS hv ey42
      refine lv_iconst (v := 1) hx hb dX11_costOf_106 (by decide) ?_
      refine lv_iand hx hb dX11_costOf_107 ?_
      refine lv_topi (fun y43 ey43 => ?_)
      replace hv := fnS hv ey43
      have ry43 : Rg y43 0 1 := by rw [ey43]; exact Rg_and1 _
      refine lv_iconst (v := 1) hx hb dX11_costOf_108 (by decide) ?_
      refine lv_icmp_ne (tgt := 120) hx hb dX11_costOf_109 (by decide) (fun q44 => ?_) (fun q44 => ?_)
      rotate_left
      · replace hv := fnP hv q44
        have r55 : Rg y43 (1) (1) := Rg_both ry43 (Rg_eqv q44 (Rg_c (x := 1) (a := (1)) (b := (1)) (by decide))) (by decide)
        exact L_112 _ _ _ hH hv r1_28 r2_28 r28 (lv_sub hl [2, 3, 4, 5, 6, 7] rfl)
      replace hv := fnN hv q44
      have r45 : Rg y43 (0) (0) := Rg_nehi ry43 (Rg_ne q44) (Rg_c (x := 1) (a := (1)) (b := (1)) (by decide)) (by decide)
      refine lv_iload hx hb dX11_costOf_120 (lv_at hl 6 rfl) ?_
      refine lv_iconst (v := 1) hx hb dX11_costOf_122 (by decide) ?_
      refine lv_iload hx hb dX11_costOf_123 (lv_at hl 1 rfl) ?_
      refine lv_ishl hx hb dX11_costOf_125 ?_
      refine lv_topi (fun y46 ey46 => ?_)
      replace hv := fnS hv ey46
      refine lv_ior hx hb dX11_costOf_126 ?_
      refine lv_topi (fun y47 ey47 => ?_)
      replace hv := fnS hv ey47
      refine lv_istore (lv' := [(4, .int y47), (7, .int y35), (6, .int y31), (0, .ref a0), (1, .int x1), (2, .int x2), (3, .int x3_28), (5, .int x5_28)]) hx hb dX11_costOf_127 hl (by decide) rfl (fun ls hl => ?_)
      refine lv_iload_n hx hb dX11_costOf_129 rfl (lv_at hl 6 rfl) ?_
      refine lv_aload_n hx hb dX11_costOf_130 rfl (lv_at hl 3 rfl) ?_
      refine gf_11_32 vb1 hx hb hts hown hH m0 k0 rfl kf_X11_75 dX11_costOf_131 ?_
      refine lv_bipush (v := 7) hx hb dX11_costOf_134 (by decide) ?_
      refine lv_aload_n hx hb dX11_costOf_136 rfl (lv_at hl 3 rfl) ?_
      refine gf_11_11 vb32 hx hb hts hown hH m0 k0 rfl kf_X11_38 dX11_costOf_137 ?_
      refine lv_iconst (v := 4) hx hb dX11_costOf_140 (by decide) ?_
      refine lv_iload_n hx hb dX11_costOf_141 rfl (lv_at hl 4 rfl) ?_
      refine lv_imul hx hb dX11_costOf_142 ?_
      refine lv_topi (fun y48 ey48 => ?_)
      replace hv := fnS hv ey48
      obtain ⟨ty48, ry48⟩ := Rg_mulx (a' := (0)) (b' := (476)) (by decide : Int32.toInt 4 = 4) (rfl : x1.toInt = _) (Rg_c (x := 4) (a := (4)) (b := (4)) (by decide)) r1_28 (by decide)
      rw [← ey48] at ty48 ry48
      refine lv_iload hx hb dX11_costOf_143 (lv_at hl 2 rfl) ?_
      refine lv_iadd hx hb dX11_costOf_145 ?_
      refine lv_topi (fun y49 ey49 => ?_)
      replace hv := fnS hv ey49
      obtain ⟨ty49, ry49⟩ := Rg_addx (a' := (0)) (b' := (479)) (rfl : y48.toInt = _) (rfl : y31.toInt = _) ry48 r37 (by decide)
      rw [← ey49] at ty49 ry49
      refine ld_73 hx hb hH mb32 kb32 (Rg_in ry49 (by decide)) dX11_costOf_146 ?_
      refine lv_topi (fun y50 ey50 => ?_)
      have ry50 : Rg y50 (0) (6) := by rw [ey50]; exact rd_73 oI mb32 kb32 (Rg_in ry49 (by decide))
      replace hv := fnS hv ey50
      refine lv_imul hx hb dX11_costOf_147 ?_
      refine lv_topi (fun y51 ey51 => ?_)
      replace hv := fnS hv ey51
      obtain ⟨ty51, ry51⟩ := Rg_mulx (a' := (0)) (b' := (42)) (by decide : Int32.toInt 7 = 7) (rfl : y50.toInt = _) (Rg_c (x := 7) (a := (7)) (b := (7)) (by decide)) ry50 (by decide)
      rw [← ey51] at ty51 ry51
      refine lv_iload hx hb dX11_costOf_148 (lv_at hl 1 rfl) ?_
      refine lv_iadd hx hb dX11_costOf_150 ?_
      refine lv_topi (fun y52 ey52 => ?_)
      replace hv := fnS hv ey52
      obtain ⟨ty52, ry52⟩ := Rg_addx (a' := (0)) (b' := (48)) (rfl : y51.toInt = _) (rfl : y35.toInt = _) ry51 ry35 (by decide)
      rw [← ey52] at ty52 ry52
      refine ld_85 hx hb hH mb1 kb1 (Rg_in ry52 (by decide)) dX11_costOf_151 ?_
      refine lv_topi (fun y53 ey53 => ?_)
      replace hv := fnS hv ey53
      refine lv_iload hx hb dX11_costOf_152 (lv_at hl 7 rfl) ?_
      refine lv_iload hx hb dX11_costOf_154 (lv_at hl 2 rfl) ?_
      refine lv_icmp_eq (tgt := 163) hx hb dX11_costOf_156 (by decide) (fun q54 => ?_) (fun q54 => ?_)
      · replace hv := fnP hv q54
        refine lv_iconst (v := 0) hx hb dX11_costOf_163 (by decide) ?_
        exact L_164 _ _ _ 0 y53 y47 hH hv (Rg_w (Rg_c (x := 0) (a := (0)) (b := (0)) (by decide)) (by decide)) r1_28 r2_28 r28 (lv_sub hl [3, 4, 5, 0, 7] rfl)
      replace hv := fnN hv q54
      refine lv_iconst (v := 1) hx hb dX11_costOf_159 (by decide) ?_
      refine lv_goto (tgt := 164) hx hb dX11_costOf_160 (by decide) ?_
      exact L_164 _ _ _ 1 y53 y47 hH hv (Rg_w (Rg_c (x := 1) (a := (1)) (b := (1)) (by decide)) (by decide)) r1_28 r2_28 r28 (lv_sub hl [3, 4, 5, 0, 7] rfl)
  exact L_28 ((4 - (0 : Int32).toInt).toNat + 1) _ _ _ y7 0 0 (Nat.lt_succ_self _) hH hv h1 h2 (Rg_w (Rg_c (x := 0) (a := (0)) (b := (0)) (by decide)) (by decide)) (lv_sub hl [3, 4, 5, 2, 1, 0] rfl)
