noncomputable def F_J9_min_7cf53_10 (x1 : Int32) (x2 : Int32)  (xs0_10 : Int32) : Int32 :=
  xs0_10
noncomputable def F_J9_min_7cf53 (x1 : Int32) (x2 : Int32) : Int32 :=
  (if x2 < x1 then F_J9_min_7cf53_10 x1 x2 x2 else F_J9_min_7cf53_10 x1 x2 x1)
set_option maxHeartbeats 4000000 in
set_option maxRecDepth 100000 in
theorem c_J9_min_7cf53 {l : Launch} {D : va_G} {cy : Nat → ClassId} {L : List Nat} {C : Nat → Nat} {b0 : Nat} {I : hI} {J : hJ} {R : hR} {x1 : Int32} {x2 : Int32}  : CI l yJ9_min_7cf53 cJ9_min_7cf53 2 .int 0 D cy L C b0 [.int x1, .int x2] (I, J, R) (fun r v => v.1 = I ∧ v.2.1 = J ∧ v.2.2 = R ∧ F_J9_min_7cf53 x1 x2 = r) := by
  refine CI.mkI (by decide +kernel) (Nat.le_of_ble_eq_true rfl) ?_
  intro p e s m args below meth c ls Q hF ret hH hl
  obtain ⟨hx, hb, -, hml, hown, hts, -⟩ := hF
  have hl : lv_has ls 2 [(0, .int x1), (1, .int x2)] := hl
  have hH : Hp D cy L C b0 s s.heap I J R s.heap [] := hH
  obtain ⟨TT0, hT⟩ : ∃ TT0, TT0 = F_J9_min_7cf53 x1 x2 := ⟨_, rfl⟩
  have hv := hT
  unfold F_J9_min_7cf53 at hv
  refine lv_iload_n hx hb dJ9_min_7cf53_0 rfl (lv_at hl 0 rfl) ?_
  refine lv_iload_n hx hb dJ9_min_7cf53_1 rfl (lv_at hl 1 rfl) ?_
  have L_10 : ∀ (H : Heap) (locs : List Loc) (ls : Array Slot) (xs0_10 : Int32), Hp D cy L C b0 s s.heap I J R H locs → TT0 = F_J9_min_7cf53_10 x1 x2 xs0_10 → lv_has ls 2 [] → W p l e (rmD 0) s m args below meth c H locs 0 0 Q (F0 m 10 ls [.int xs0_10]) := by
    intro H locs ls xs0_10 hH hv hl
    unfold F_J9_min_7cf53_10 at hv
    exact ret (xs0_10) _ _ _ _ _ _ _ dJ9_min_7cf53_10 hH ⟨rfl, rfl, rfl, (hT.symm.trans hv)⟩
  refine lv_icmp_gt (tgt := 9) hx hb dJ9_min_7cf53_2 (by decide) (fun q1 => ?_) (fun q1 => ?_)
  rotate_left
  · replace hv := fnN hv q1
    refine lv_iload_n hx hb dJ9_min_7cf53_5 rfl (lv_at hl 0 rfl) ?_
    refine lv_goto (tgt := 10) hx hb dJ9_min_7cf53_6 (by decide) ?_
    exact L_10 _ _ _ x1 hH hv (lv_sub hl [] rfl)
  replace hv := fnP hv q1
  have r2 : Rg x2 (-2147483648) (2147483646) := Rg_ult (Rg_any x2) (Rg_lt q1) (Rg_any x1) (by decide)
  have r3 : Rg x1 (-2147483647) (2147483647) := Rg_llt (Rg_any x1) (Rg_lt q1) (Rg_any x2) (by decide)
  refine lv_iload_n hx hb dJ9_min_7cf53_9 rfl (lv_at hl 1 rfl) ?_
  exact L_10 _ _ _ x2 hH hv (lv_sub hl [] rfl)
noncomputable def F_J6_bitCount_0f7a4 (x1 : Int32) : Int32 :=
  nm ((Int32.toUInt32 x1 >>> (Int32.toUInt32 (1 : Int32) &&& Int32.toUInt32 31)).toInt32) fun y1 => nm (y1 &&& (1431655765 : Int32)) fun y2 => nm (x1 - y2) fun y3 => nm (y3 &&& (858993459 : Int32)) fun y4 => nm ((Int32.toUInt32 y3 >>> (Int32.toUInt32 (2 : Int32) &&& Int32.toUInt32 31)).toInt32) fun y5 => nm (y5 &&& (858993459 : Int32)) fun y6 => nm (y4 + y6) fun y7 => nm ((Int32.toUInt32 y7 >>> (Int32.toUInt32 (4 : Int32) &&& Int32.toUInt32 31)).toInt32) fun y8 => nm (y7 + y8) fun y9 => nm (y9 &&& (252645135 : Int32)) fun y10 => nm ((Int32.toUInt32 y10 >>> (Int32.toUInt32 (8 : Int32) &&& Int32.toUInt32 31)).toInt32) fun y11 => nm (y10 + y11) fun y12 => nm ((Int32.toUInt32 y12 >>> (Int32.toUInt32 (16 : Int32) &&& Int32.toUInt32 31)).toInt32) fun y13 => nm (y12 + y13) fun y14 => nm (y14 &&& (63 : Int32)) fun y15 => y15
set_option maxHeartbeats 4000000 in
set_option maxRecDepth 100000 in
theorem c_J6_bitCount_0f7a4 {l : Launch} {D : va_G} {cy : Nat → ClassId} {L : List Nat} {C : Nat → Nat} {b0 : Nat} {I : hI} {J : hJ} {R : hR} {x1 : Int32}  : CI l yJ6_bitCount_0f7a4 cJ6_bitCount_0f7a4 1 .int 0 D cy L C b0 [.int x1] (I, J, R) (fun r v => v.1 = I ∧ v.2.1 = J ∧ v.2.2 = R ∧ F_J6_bitCount_0f7a4 x1 = r) := by
  refine CI.mkI (by decide +kernel) (Nat.le_of_ble_eq_true rfl) ?_
  intro p e s m args below meth c ls Q hF ret hH hl
  obtain ⟨hx, hb, -, hml, hown, hts, -⟩ := hF
  have hl : lv_has ls 1 [(0, .int x1)] := hl
  have hH : Hp D cy L C b0 s s.heap I J R s.heap [] := hH
  obtain ⟨TT0, hT⟩ : ∃ TT0, TT0 = F_J6_bitCount_0f7a4 x1 := ⟨_, rfl⟩
  have hv := hT
  unfold F_J6_bitCount_0f7a4 at hv
  refine lv_iload_n hx hb dJ6_bitCount_0f7a4_0 rfl (lv_at hl 0 rfl) ?_
  refine lv_iload_n hx hb dJ6_bitCount_0f7a4_1 rfl (lv_at hl 0 rfl) ?_
  refine lv_iconst (v := 1) hx hb dJ6_bitCount_0f7a4_2 (by decide) ?_
  refine lv_iushr hx hb dJ6_bitCount_0f7a4_3 rfl ?_
  refine lv_topi (fun y1 ey1 => ?_)
  replace hv := fnS hv ey1
  refine lv_ldcw (v := 1431655765) hx hb hown (hts _ kk_J6_265) dJ6_bitCount_0f7a4_4 ?_
  refine lv_iand hx hb dJ6_bitCount_0f7a4_7 ?_
  refine lv_topi (fun y2 ey2 => ?_)
  replace hv := fnS hv ey2
  refine lv_isub hx hb dJ6_bitCount_0f7a4_8 ?_
  refine lv_topi (fun y3 ey3 => ?_)
  replace hv := fnS hv ey3
  refine lv_istore_n (lv' := [(0, .int y3)]) hx hb dJ6_bitCount_0f7a4_9 rfl hl (by decide) rfl (fun ls hl => ?_)
  refine lv_iload_n hx hb dJ6_bitCount_0f7a4_10 rfl (lv_at hl 0 rfl) ?_
  refine lv_ldcw (v := 858993459) hx hb hown (hts _ kk_J6_266) dJ6_bitCount_0f7a4_11 ?_
  refine lv_iand hx hb dJ6_bitCount_0f7a4_14 ?_
  refine lv_topi (fun y4 ey4 => ?_)
  replace hv := fnS hv ey4
  refine lv_iload_n hx hb dJ6_bitCount_0f7a4_15 rfl (lv_at hl 0 rfl) ?_
  refine lv_iconst (v := 2) hx hb dJ6_bitCount_0f7a4_16 (by decide) ?_
  refine lv_iushr hx hb dJ6_bitCount_0f7a4_17 rfl ?_
  refine lv_topi (fun y5 ey5 => ?_)
  replace hv := fnS hv ey5
  refine lv_ldcw (v := 858993459) hx hb hown (hts _ kk_J6_266) dJ6_bitCount_0f7a4_18 ?_
  refine lv_iand hx hb dJ6_bitCount_0f7a4_21 ?_
  refine lv_topi (fun y6 ey6 => ?_)
  replace hv := fnS hv ey6
  refine lv_iadd hx hb dJ6_bitCount_0f7a4_22 ?_
  refine lv_topi (fun y7 ey7 => ?_)
  replace hv := fnS hv ey7
  refine lv_istore_n (lv' := [(0, .int y7)]) hx hb dJ6_bitCount_0f7a4_23 rfl hl (by decide) rfl (fun ls hl => ?_)
  refine lv_iload_n hx hb dJ6_bitCount_0f7a4_24 rfl (lv_at hl 0 rfl) ?_
  refine lv_iload_n hx hb dJ6_bitCount_0f7a4_25 rfl (lv_at hl 0 rfl) ?_
  refine lv_iconst (v := 4) hx hb dJ6_bitCount_0f7a4_26 (by decide) ?_
  refine lv_iushr hx hb dJ6_bitCount_0f7a4_27 rfl ?_
  refine lv_topi (fun y8 ey8 => ?_)
  replace hv := fnS hv ey8
  refine lv_iadd hx hb dJ6_bitCount_0f7a4_28 ?_
  refine lv_topi (fun y9 ey9 => ?_)
  replace hv := fnS hv ey9
  refine lv_ldcw (v := 252645135) hx hb hown (hts _ kk_J6_267) dJ6_bitCount_0f7a4_29 ?_
  refine lv_iand hx hb dJ6_bitCount_0f7a4_32 ?_
  refine lv_topi (fun y10 ey10 => ?_)
  replace hv := fnS hv ey10
  refine lv_istore_n (lv' := [(0, .int y10)]) hx hb dJ6_bitCount_0f7a4_33 rfl hl (by decide) rfl (fun ls hl => ?_)
  refine lv_iload_n hx hb dJ6_bitCount_0f7a4_34 rfl (lv_at hl 0 rfl) ?_
  refine lv_iload_n hx hb dJ6_bitCount_0f7a4_35 rfl (lv_at hl 0 rfl) ?_
  refine lv_bipush (v := 8) hx hb dJ6_bitCount_0f7a4_36 (by decide) ?_
  refine lv_iushr hx hb dJ6_bitCount_0f7a4_38 rfl ?_
  refine lv_topi (fun y11 ey11 => ?_)
  replace hv := fnS hv ey11
  refine lv_iadd hx hb dJ6_bitCount_0f7a4_39 ?_
  refine lv_topi (fun y12 ey12 => ?_)
  replace hv := fnS hv ey12
  refine lv_istore_n (lv' := [(0, .int y12)]) hx hb dJ6_bitCount_0f7a4_40 rfl hl (by decide) rfl (fun ls hl => ?_)
  refine lv_iload_n hx hb dJ6_bitCount_0f7a4_41 rfl (lv_at hl 0 rfl) ?_
  refine lv_iload_n hx hb dJ6_bitCount_0f7a4_42 rfl (lv_at hl 0 rfl) ?_
  refine lv_bipush (v := 16) hx hb dJ6_bitCount_0f7a4_43 (by decide) ?_
  refine lv_iushr hx hb dJ6_bitCount_0f7a4_45 rfl ?_
  refine lv_topi (fun y13 ey13 => ?_)
  replace hv := fnS hv ey13
  refine lv_iadd hx hb dJ6_bitCount_0f7a4_46 ?_
  refine lv_topi (fun y14 ey14 => ?_)
  replace hv := fnS hv ey14
  refine lv_istore_n (lv' := [(0, .int y14)]) hx hb dJ6_bitCount_0f7a4_47 rfl hl (by decide) rfl (fun ls hl => ?_)
  refine lv_iload_n hx hb dJ6_bitCount_0f7a4_48 rfl (lv_at hl 0 rfl) ?_
  refine lv_bipush (v := 63) hx hb dJ6_bitCount_0f7a4_49 (by decide) ?_
  refine lv_iand hx hb dJ6_bitCount_0f7a4_51 ?_
  refine lv_topi (fun y15 ey15 => ?_)
  replace hv := fnS hv ey15
  exact ret (y15) _ _ _ _ _ _ _ dJ6_bitCount_0f7a4_52 hH ⟨rfl, rfl, rfl, (hT.symm.trans hv)⟩
noncomputable def B_J7_fill_38_5 (a1 : Nat) (x2 : Int32) (k_5 : hI → hJ → hR → Int32 → (hU)) (I_5 : hI) (J : hJ) (R : hR) (x2_5 : Int32) : hU :=
  (if (49 : Int32) ≤ x2_5 then (I_5, J, R) else nm (u2 I_5 a1 (Int32.toNatClampNeg x2_5) x2) fun I4 => nm (x2_5 + (1 : Int32)) fun y5 => k_5 I4 J R y5)
noncomputable def F_J7_fill_38_5 (a1 : Nat) (x2 : Int32) : Nat → hI → hJ → hR → Int32 → (hU) := fun n => Nat.rec (motive := fun _ => hI → hJ → hR → Int32 → (hU)) (fun _ _ _ _ => default) (fun _ k => B_J7_fill_38_5 a1 x2 k) n
theorem F_J7_fill_38_5_s {a1 : Nat} {x2 : Int32} {n : Nat} {I_5 : hI} {J : hJ} {R : hR} {x2_5 : Int32} : F_J7_fill_38_5 a1 x2 (n + 1)  I_5 J R x2_5 = B_J7_fill_38_5 a1 x2 (F_J7_fill_38_5 a1 x2 n)  I_5 J R x2_5 := rfl
noncomputable def F_J7_fill_38 (a1 : Nat) (x2 : Int32) (I : hI) (J : hJ) (R : hR) : hU :=
  F_J7_fill_38_5 a1 x2 ((49 - (0 : Int32).toInt).toNat + 1) I J R (0 : Int32)
def ms_J7_fill_38 : List Nat := [2432]
set_option maxHeartbeats 4000000 in
set_option maxRecDepth 100000 in
theorem c_J7_fill_38 {l : Launch} {D : va_G} {cy : Nat → ClassId} {L : List Nat} {C : Nat → Nat} {b0 : Nat} {I : hI} {J : hJ} {R : hR} {a1 : Nat} {x2 : Int32} (oI : OkI L C I) (oR : OkR L C R) (m1 : a1 ∈ L) (k1 : C a1 = 38) : CV l yJ7_fill_53178 cJ7_fill_53178 4 0 D cy L C b0 [.ref a1, .int x2] (I, J, R) (fun v => Ps L C ms_J7_fill_38 (I, J, R) v ∧ v.2.1 = J ∧ v.2.2 = R ∧ F_J7_fill_38 a1 x2 I J R = v) := by
  refine CV.mk (by decide +kernel) (Nat.le_of_ble_eq_true rfl) ?_
  intro p e s m args below meth c ls Q hF ret hH hl
  obtain ⟨hx, hb, -, hml, hown, hts, -⟩ := hF
  have hl : lv_has ls 4 [(0, .ref a1), (1, .int x2)] := hl
  have hH : Hp D cy L C b0 s s.heap I J R s.heap [] := hH
  have sm : Sm C ms_J7_fill_38 (I, J, R) (I, J, R) := Sm.rf
  obtain ⟨TT0, hT⟩ : ∃ TT0, TT0 = F_J7_fill_38 a1 x2 I J R := ⟨_, rfl⟩
  have hv := hT
  unfold F_J7_fill_38 at hv
  refine lv_iconst (v := 0) hx hb dJ7_fill_53178_0 (by decide) ?_
  refine lv_istore_n (lv' := [(2, .int 0), (0, .ref a1), (1, .int x2)]) hx hb dJ7_fill_53178_1 rfl hl (by decide) rfl (fun ls hl => ?_)
  refine lv_aload_n hx hb dJ7_fill_53178_2 rfl (lv_at hl 1 rfl) ?_
  refine hLen (v := 49) hx hb hH m1 k1 (Or.inl rfl) rfl dJ7_fill_53178_3 ?_
  refine lv_istore_n (lv' := [(3, .int 49), (2, .int 0), (0, .ref a1), (1, .int x2)]) hx hb dJ7_fill_53178_4 rfl hl (by decide) rfl (fun ls hl => ?_)
  have L_5 : ∀ (n_5 : Nat) (I_5 : hI) (H : Heap) (locs : List Loc) (ls : Array Slot) (x2_5 : Int32), (49 - x2_5.toInt).toNat < n_5 → Hp D cy L C b0 s s.heap I_5 J R H locs → TT0 = F_J7_fill_38_5 a1 x2 n_5 I_5 J R x2_5 → OkI L C I_5 → Sm C ms_J7_fill_38 (I, J, R) (I_5, J, R) → Rg x2_5 (0) (49) → lv_has ls 4 [(0, .ref a1), (1, .int x2), (2, .int x2_5), (3, .int 49)] → W p l e (rmD 0) s m args below meth c H locs 0 0 Q (F0 m 5 ls []) := by
    intro n_5
    induction n_5 with
    | zero => intro I_5 H locs ls x2_5 h; exact absurd h (Nat.not_lt_zero _)
    | succ n_5 ih_5 =>
      intro I_5 H locs ls x2_5 hn_5 hH hv oI sm r2_5 hl
      replace hv := hv.trans F_J7_fill_38_5_s
      unfold B_J7_fill_38_5 at hv
      refine lv_iload_n hx hb dJ7_fill_53178_5 rfl (lv_at hl 2 rfl) ?_
      refine lv_iload_n hx hb dJ7_fill_53178_6 rfl (lv_at hl 3 rfl) ?_
      refine lv_icmp_ge (tgt := 20) hx hb dJ7_fill_53178_7 (by decide) (fun q1 => ?_) (fun q1 => ?_)
      · replace hv := fnP hv q1
        have r2 : Rg x2_5 (49) (49) := Rg_lle r2_5 (Rg_le q1) (Rg_c (x := 49) (a := (49)) (b := (49)) (by decide)) (by decide)
        exact ret _ _ _ _ _ _ _ dJ7_fill_53178_20 hH ⟨⟨oI, oR, sm⟩, rfl, rfl, (hT.symm.trans hv)⟩
      replace hv := fnN hv q1
      have r3 : Rg x2_5 (0) (48) := Rg_ult r2_5 (Rg_nle q1) (Rg_c (x := 49) (a := (49)) (b := (49)) (by decide)) (by decide)
      refine lv_aload_n hx hb dJ7_fill_53178_10 rfl (lv_at hl 0 rfl) ?_
      refine lv_iload_n hx hb dJ7_fill_53178_11 rfl (lv_at hl 2 rfl) ?_
      refine lv_iload_n hx hb dJ7_fill_53178_12 rfl (lv_at hl 1 rfl) ?_
      refine st_38 hx hb hH m1 k1 (Rg_in r3 (by decide)) dJ7_fill_53178_13 (fun I4 H locs eI4 hH => ?_)
      replace hv := fnS hv eI4
      have oI : OkI L C I4 := by rw [eI4]; exact wr_38 oI k1 (Rg_any x2)
      have sm : Sm C ms_J7_fill_38 (I, J, R) (I4, J, R) := by rw [eI4]; exact sm.stI k1 (mC_arr (by decide) rfl)
      obtain ⟨y5, ey5⟩ : ∃ y : Int32, y = x2_5 + 1 := ⟨_, rfl⟩
      replace hv := fnS hv ey5
      obtain ⟨ty5, ry5⟩ := Rg_addx (a' := (1)) (b' := (49)) (rfl : x2_5.toInt = _) (by decide : Int32.toInt 1 = 1) r3 (Rg_c (x := 1) (a := (1)) (b := (1)) (by decide)) (by decide)
      rw [← ey5] at ty5 ry5
      refine lv_iinc (v := y5) (lv' := [(2, .int y5), (0, .ref a1), (1, .int x2), (3, .int 49)]) hx hb dJ7_fill_53178_14 hl (k := 2) rfl (by rw [ey5]; rfl) (by decide) rfl (fun ls hl => ?_)
      refine lv_goto (tgt := 5) hx hb dJ7_fill_53178_17 (by decide) ?_
      exact ih_5 I4 _ _ _ y5 (lp_up hn_5 ty5 (Rg_ltc r3 (by decide))) hH hv oI sm (Rg_w ry5 (by decide)) (lv_sub hl [1, 2, 0, 3] rfl)
  exact L_5 ((49 - (0 : Int32).toInt).toNat + 1) I _ _ _ 0 (Nat.lt_succ_self _) hH hv oI sm (Rg_w (Rg_c (x := 0) (a := (0)) (b := (0)) (by decide)) (by decide)) (lv_sub hl [2, 3, 1, 0] rfl)
noncomputable def B_J7_fill_45_5 (a1 : Nat) (x2 : Int32) (k_5 : hI → hJ → hR → Int32 → (hU)) (I_5 : hI) (J : hJ) (R : hR) (x2_5 : Int32) : hU :=
  (if (100 : Int32) ≤ x2_5 then (I_5, J, R) else nm (u2 I_5 a1 (Int32.toNatClampNeg x2_5) x2) fun I4 => nm (x2_5 + (1 : Int32)) fun y5 => k_5 I4 J R y5)
noncomputable def F_J7_fill_45_5 (a1 : Nat) (x2 : Int32) : Nat → hI → hJ → hR → Int32 → (hU) := fun n => Nat.rec (motive := fun _ => hI → hJ → hR → Int32 → (hU)) (fun _ _ _ _ => default) (fun _ k => B_J7_fill_45_5 a1 x2 k) n
theorem F_J7_fill_45_5_s {a1 : Nat} {x2 : Int32} {n : Nat} {I_5 : hI} {J : hJ} {R : hR} {x2_5 : Int32} : F_J7_fill_45_5 a1 x2 (n + 1)  I_5 J R x2_5 = B_J7_fill_45_5 a1 x2 (F_J7_fill_45_5 a1 x2 n)  I_5 J R x2_5 := rfl
noncomputable def F_J7_fill_45 (a1 : Nat) (x2 : Int32) (I : hI) (J : hJ) (R : hR) : hU :=
  F_J7_fill_45_5 a1 x2 ((100 - (0 : Int32).toInt).toNat + 1) I J R (0 : Int32)
def ms_J7_fill_45 : List Nat := [2880]
set_option maxHeartbeats 4000000 in
set_option maxRecDepth 100000 in
theorem c_J7_fill_45 {l : Launch} {D : va_G} {cy : Nat → ClassId} {L : List Nat} {C : Nat → Nat} {b0 : Nat} {I : hI} {J : hJ} {R : hR} {a1 : Nat} {x2 : Int32} (oI : OkI L C I) (oR : OkR L C R) (m1 : a1 ∈ L) (k1 : C a1 = 45) : CV l yJ7_fill_53178 cJ7_fill_53178 4 0 D cy L C b0 [.ref a1, .int x2] (I, J, R) (fun v => Ps L C ms_J7_fill_45 (I, J, R) v ∧ v.2.1 = J ∧ v.2.2 = R ∧ F_J7_fill_45 a1 x2 I J R = v) := by
  refine CV.mk (by decide +kernel) (Nat.le_of_ble_eq_true rfl) ?_
  intro p e s m args below meth c ls Q hF ret hH hl
  obtain ⟨hx, hb, -, hml, hown, hts, -⟩ := hF
  have hl : lv_has ls 4 [(0, .ref a1), (1, .int x2)] := hl
  have hH : Hp D cy L C b0 s s.heap I J R s.heap [] := hH
  have sm : Sm C ms_J7_fill_45 (I, J, R) (I, J, R) := Sm.rf
  obtain ⟨TT0, hT⟩ : ∃ TT0, TT0 = F_J7_fill_45 a1 x2 I J R := ⟨_, rfl⟩
  have hv := hT
  unfold F_J7_fill_45 at hv
  refine lv_iconst (v := 0) hx hb dJ7_fill_53178_0 (by decide) ?_
  refine lv_istore_n (lv' := [(2, .int 0), (0, .ref a1), (1, .int x2)]) hx hb dJ7_fill_53178_1 rfl hl (by decide) rfl (fun ls hl => ?_)
  refine lv_aload_n hx hb dJ7_fill_53178_2 rfl (lv_at hl 1 rfl) ?_
  refine hLen (v := 100) hx hb hH m1 k1 (Or.inl rfl) rfl dJ7_fill_53178_3 ?_
  refine lv_istore_n (lv' := [(3, .int 100), (2, .int 0), (0, .ref a1), (1, .int x2)]) hx hb dJ7_fill_53178_4 rfl hl (by decide) rfl (fun ls hl => ?_)
  have L_5 : ∀ (n_5 : Nat) (I_5 : hI) (H : Heap) (locs : List Loc) (ls : Array Slot) (x2_5 : Int32), (100 - x2_5.toInt).toNat < n_5 → Hp D cy L C b0 s s.heap I_5 J R H locs → TT0 = F_J7_fill_45_5 a1 x2 n_5 I_5 J R x2_5 → OkI L C I_5 → Sm C ms_J7_fill_45 (I, J, R) (I_5, J, R) → Rg x2_5 (0) (100) → lv_has ls 4 [(0, .ref a1), (1, .int x2), (2, .int x2_5), (3, .int 100)] → W p l e (rmD 0) s m args below meth c H locs 0 0 Q (F0 m 5 ls []) := by
    intro n_5
    induction n_5 with
    | zero => intro I_5 H locs ls x2_5 h; exact absurd h (Nat.not_lt_zero _)
    | succ n_5 ih_5 =>
      intro I_5 H locs ls x2_5 hn_5 hH hv oI sm r2_5 hl
      replace hv := hv.trans F_J7_fill_45_5_s
      unfold B_J7_fill_45_5 at hv
      refine lv_iload_n hx hb dJ7_fill_53178_5 rfl (lv_at hl 2 rfl) ?_
      refine lv_iload_n hx hb dJ7_fill_53178_6 rfl (lv_at hl 3 rfl) ?_
      refine lv_icmp_ge (tgt := 20) hx hb dJ7_fill_53178_7 (by decide) (fun q1 => ?_) (fun q1 => ?_)
      · replace hv := fnP hv q1
        have r2 : Rg x2_5 (100) (100) := Rg_lle r2_5 (Rg_le q1) (Rg_c (x := 100) (a := (100)) (b := (100)) (by decide)) (by decide)
        exact ret _ _ _ _ _ _ _ dJ7_fill_53178_20 hH ⟨⟨oI, oR, sm⟩, rfl, rfl, (hT.symm.trans hv)⟩
      replace hv := fnN hv q1
      have r3 : Rg x2_5 (0) (99) := Rg_ult r2_5 (Rg_nle q1) (Rg_c (x := 100) (a := (100)) (b := (100)) (by decide)) (by decide)
      refine lv_aload_n hx hb dJ7_fill_53178_10 rfl (lv_at hl 0 rfl) ?_
      refine lv_iload_n hx hb dJ7_fill_53178_11 rfl (lv_at hl 2 rfl) ?_
      refine lv_iload_n hx hb dJ7_fill_53178_12 rfl (lv_at hl 1 rfl) ?_
      refine st_45 hx hb hH m1 k1 (Rg_in r3 (by decide)) dJ7_fill_53178_13 (fun I4 H locs eI4 hH => ?_)
      replace hv := fnS hv eI4
      have oI : OkI L C I4 := by rw [eI4]; exact wr_45 oI k1 (Rg_any x2)
      have sm : Sm C ms_J7_fill_45 (I, J, R) (I4, J, R) := by rw [eI4]; exact sm.stI k1 (mC_arr (by decide) rfl)
      obtain ⟨y5, ey5⟩ : ∃ y : Int32, y = x2_5 + 1 := ⟨_, rfl⟩
      replace hv := fnS hv ey5
      obtain ⟨ty5, ry5⟩ := Rg_addx (a' := (1)) (b' := (100)) (rfl : x2_5.toInt = _) (by decide : Int32.toInt 1 = 1) r3 (Rg_c (x := 1) (a := (1)) (b := (1)) (by decide)) (by decide)
      rw [← ey5] at ty5 ry5
      refine lv_iinc (v := y5) (lv' := [(2, .int y5), (0, .ref a1), (1, .int x2), (3, .int 100)]) hx hb dJ7_fill_53178_14 hl (k := 2) rfl (by rw [ey5]; rfl) (by decide) rfl (fun ls hl => ?_)
      refine lv_goto (tgt := 5) hx hb dJ7_fill_53178_17 (by decide) ?_
      exact ih_5 I4 _ _ _ y5 (lp_up hn_5 ty5 (Rg_ltc r3 (by decide))) hH hv oI sm (Rg_w ry5 (by decide)) (lv_sub hl [1, 2, 0, 3] rfl)
  exact L_5 ((100 - (0 : Int32).toInt).toNat + 1) I _ _ _ 0 (Nat.lt_succ_self _) hH hv oI sm (Rg_w (Rg_c (x := 0) (a := (0)) (b := (0)) (by decide)) (by decide)) (lv_sub hl [2, 3, 1, 0] rfl)
noncomputable def B_J7_fill_46_5 (a1 : Nat) (x2 : Int32) (k_5 : hI → hJ → hR → Int32 → (hU)) (I_5 : hI) (J : hJ) (R : hR) (x2_5 : Int32) : hU :=
  (if (10 : Int32) ≤ x2_5 then (I_5, J, R) else nm (u2 I_5 a1 (Int32.toNatClampNeg x2_5) x2) fun I4 => nm (x2_5 + (1 : Int32)) fun y5 => k_5 I4 J R y5)
noncomputable def F_J7_fill_46_5 (a1 : Nat) (x2 : Int32) : Nat → hI → hJ → hR → Int32 → (hU) := fun n => Nat.rec (motive := fun _ => hI → hJ → hR → Int32 → (hU)) (fun _ _ _ _ => default) (fun _ k => B_J7_fill_46_5 a1 x2 k) n
theorem F_J7_fill_46_5_s {a1 : Nat} {x2 : Int32} {n : Nat} {I_5 : hI} {J : hJ} {R : hR} {x2_5 : Int32} : F_J7_fill_46_5 a1 x2 (n + 1)  I_5 J R x2_5 = B_J7_fill_46_5 a1 x2 (F_J7_fill_46_5 a1 x2 n)  I_5 J R x2_5 := rfl
noncomputable def F_J7_fill_46 (a1 : Nat) (x2 : Int32) (I : hI) (J : hJ) (R : hR) : hU :=
  F_J7_fill_46_5 a1 x2 ((10 - (0 : Int32).toInt).toNat + 1) I J R (0 : Int32)
def ms_J7_fill_46 : List Nat := [2944]
set_option maxHeartbeats 4000000 in
set_option maxRecDepth 100000 in
theorem c_J7_fill_46 {l : Launch} {D : va_G} {cy : Nat → ClassId} {L : List Nat} {C : Nat → Nat} {b0 : Nat} {I : hI} {J : hJ} {R : hR} {a1 : Nat} {x2 : Int32} (oI : OkI L C I) (oR : OkR L C R) (m1 : a1 ∈ L) (k1 : C a1 = 46) : CV l yJ7_fill_53178 cJ7_fill_53178 4 0 D cy L C b0 [.ref a1, .int x2] (I, J, R) (fun v => Ps L C ms_J7_fill_46 (I, J, R) v ∧ v.2.1 = J ∧ v.2.2 = R ∧ F_J7_fill_46 a1 x2 I J R = v) := by
  refine CV.mk (by decide +kernel) (Nat.le_of_ble_eq_true rfl) ?_
  intro p e s m args below meth c ls Q hF ret hH hl
  obtain ⟨hx, hb, -, hml, hown, hts, -⟩ := hF
  have hl : lv_has ls 4 [(0, .ref a1), (1, .int x2)] := hl
  have hH : Hp D cy L C b0 s s.heap I J R s.heap [] := hH
  have sm : Sm C ms_J7_fill_46 (I, J, R) (I, J, R) := Sm.rf
  obtain ⟨TT0, hT⟩ : ∃ TT0, TT0 = F_J7_fill_46 a1 x2 I J R := ⟨_, rfl⟩
  have hv := hT
  unfold F_J7_fill_46 at hv
  refine lv_iconst (v := 0) hx hb dJ7_fill_53178_0 (by decide) ?_
  refine lv_istore_n (lv' := [(2, .int 0), (0, .ref a1), (1, .int x2)]) hx hb dJ7_fill_53178_1 rfl hl (by decide) rfl (fun ls hl => ?_)
  refine lv_aload_n hx hb dJ7_fill_53178_2 rfl (lv_at hl 1 rfl) ?_
  refine hLen (v := 10) hx hb hH m1 k1 (Or.inl rfl) rfl dJ7_fill_53178_3 ?_
  refine lv_istore_n (lv' := [(3, .int 10), (2, .int 0), (0, .ref a1), (1, .int x2)]) hx hb dJ7_fill_53178_4 rfl hl (by decide) rfl (fun ls hl => ?_)
  have L_5 : ∀ (n_5 : Nat) (I_5 : hI) (H : Heap) (locs : List Loc) (ls : Array Slot) (x2_5 : Int32), (10 - x2_5.toInt).toNat < n_5 → Hp D cy L C b0 s s.heap I_5 J R H locs → TT0 = F_J7_fill_46_5 a1 x2 n_5 I_5 J R x2_5 → OkI L C I_5 → Sm C ms_J7_fill_46 (I, J, R) (I_5, J, R) → Rg x2_5 (0) (10) → lv_has ls 4 [(0, .ref a1), (1, .int x2), (2, .int x2_5), (3, .int 10)] → W p l e (rmD 0) s m args below meth c H locs 0 0 Q (F0 m 5 ls []) := by
    intro n_5
    induction n_5 with
    | zero => intro I_5 H locs ls x2_5 h; exact absurd h (Nat.not_lt_zero _)
    | succ n_5 ih_5 =>
      intro I_5 H locs ls x2_5 hn_5 hH hv oI sm r2_5 hl
      replace hv := hv.trans F_J7_fill_46_5_s
      unfold B_J7_fill_46_5 at hv
      refine lv_iload_n hx hb dJ7_fill_53178_5 rfl (lv_at hl 2 rfl) ?_
      refine lv_iload_n hx hb dJ7_fill_53178_6 rfl (lv_at hl 3 rfl) ?_
      refine lv_icmp_ge (tgt := 20) hx hb dJ7_fill_53178_7 (by decide) (fun q1 => ?_) (fun q1 => ?_)
      · replace hv := fnP hv q1
        have r2 : Rg x2_5 (10) (10) := Rg_lle r2_5 (Rg_le q1) (Rg_c (x := 10) (a := (10)) (b := (10)) (by decide)) (by decide)
        exact ret _ _ _ _ _ _ _ dJ7_fill_53178_20 hH ⟨⟨oI, oR, sm⟩, rfl, rfl, (hT.symm.trans hv)⟩
      replace hv := fnN hv q1
      have r3 : Rg x2_5 (0) (9) := Rg_ult r2_5 (Rg_nle q1) (Rg_c (x := 10) (a := (10)) (b := (10)) (by decide)) (by decide)
      refine lv_aload_n hx hb dJ7_fill_53178_10 rfl (lv_at hl 0 rfl) ?_
      refine lv_iload_n hx hb dJ7_fill_53178_11 rfl (lv_at hl 2 rfl) ?_
      refine lv_iload_n hx hb dJ7_fill_53178_12 rfl (lv_at hl 1 rfl) ?_
      refine st_46 hx hb hH m1 k1 (Rg_in r3 (by decide)) dJ7_fill_53178_13 (fun I4 H locs eI4 hH => ?_)
      replace hv := fnS hv eI4
      have oI : OkI L C I4 := by rw [eI4]; exact wr_46 oI k1 (Rg_any x2)
      have sm : Sm C ms_J7_fill_46 (I, J, R) (I4, J, R) := by rw [eI4]; exact sm.stI k1 (mC_arr (by decide) rfl)
      obtain ⟨y5, ey5⟩ : ∃ y : Int32, y = x2_5 + 1 := ⟨_, rfl⟩
      replace hv := fnS hv ey5
      obtain ⟨ty5, ry5⟩ := Rg_addx (a' := (1)) (b' := (10)) (rfl : x2_5.toInt = _) (by decide : Int32.toInt 1 = 1) r3 (Rg_c (x := 1) (a := (1)) (b := (1)) (by decide)) (by decide)
      rw [← ey5] at ty5 ry5
      refine lv_iinc (v := y5) (lv' := [(2, .int y5), (0, .ref a1), (1, .int x2), (3, .int 10)]) hx hb dJ7_fill_53178_14 hl (k := 2) rfl (by rw [ey5]; rfl) (by decide) rfl (fun ls hl => ?_)
      refine lv_goto (tgt := 5) hx hb dJ7_fill_53178_17 (by decide) ?_
      exact ih_5 I4 _ _ _ y5 (lp_up hn_5 ty5 (Rg_ltc r3 (by decide))) hH hv oI sm (Rg_w ry5 (by decide)) (lv_sub hl [1, 2, 0, 3] rfl)
  exact L_5 ((10 - (0 : Int32).toInt).toNat + 1) I _ _ _ 0 (Nat.lt_succ_self _) hH hv oI sm (Rg_w (Rg_c (x := 0) (a := (0)) (b := (0)) (by decide)) (by decide)) (lv_sub hl [2, 3, 1, 0] rfl)
noncomputable def B_J7_fill_55_5 (a1 : Nat) (x2 : Int32) (k_5 : hI → hJ → hR → Int32 → (hU)) (I_5 : hI) (J : hJ) (R : hR) (x2_5 : Int32) : hU :=
  (if (4 : Int32) ≤ x2_5 then (I_5, J, R) else nm (u2 I_5 a1 (Int32.toNatClampNeg x2_5) x2) fun I4 => nm (x2_5 + (1 : Int32)) fun y5 => k_5 I4 J R y5)
noncomputable def F_J7_fill_55_5 (a1 : Nat) (x2 : Int32) : Nat → hI → hJ → hR → Int32 → (hU) := fun n => Nat.rec (motive := fun _ => hI → hJ → hR → Int32 → (hU)) (fun _ _ _ _ => default) (fun _ k => B_J7_fill_55_5 a1 x2 k) n
theorem F_J7_fill_55_5_s {a1 : Nat} {x2 : Int32} {n : Nat} {I_5 : hI} {J : hJ} {R : hR} {x2_5 : Int32} : F_J7_fill_55_5 a1 x2 (n + 1)  I_5 J R x2_5 = B_J7_fill_55_5 a1 x2 (F_J7_fill_55_5 a1 x2 n)  I_5 J R x2_5 := rfl
noncomputable def F_J7_fill_55 (a1 : Nat) (x2 : Int32) (I : hI) (J : hJ) (R : hR) : hU :=
  F_J7_fill_55_5 a1 x2 ((4 - (0 : Int32).toInt).toNat + 1) I J R (0 : Int32)
def ms_J7_fill_55 : List Nat := [3520]
set_option maxHeartbeats 4000000 in
set_option maxRecDepth 100000 in
theorem c_J7_fill_55 {l : Launch} {D : va_G} {cy : Nat → ClassId} {L : List Nat} {C : Nat → Nat} {b0 : Nat} {I : hI} {J : hJ} {R : hR} {a1 : Nat} {x2 : Int32} (oI : OkI L C I) (oR : OkR L C R) (m1 : a1 ∈ L) (k1 : C a1 = 55) (h2 : Rg x2 (-1000) (1000)) : CV l yJ7_fill_53178 cJ7_fill_53178 4 0 D cy L C b0 [.ref a1, .int x2] (I, J, R) (fun v => Ps L C ms_J7_fill_55 (I, J, R) v ∧ v.2.1 = J ∧ v.2.2 = R ∧ F_J7_fill_55 a1 x2 I J R = v) := by
  refine CV.mk (by decide +kernel) (Nat.le_of_ble_eq_true rfl) ?_
  intro p e s m args below meth c ls Q hF ret hH hl
  obtain ⟨hx, hb, -, hml, hown, hts, -⟩ := hF
  have hl : lv_has ls 4 [(0, .ref a1), (1, .int x2)] := hl
  have hH : Hp D cy L C b0 s s.heap I J R s.heap [] := hH
  have sm : Sm C ms_J7_fill_55 (I, J, R) (I, J, R) := Sm.rf
  obtain ⟨TT0, hT⟩ : ∃ TT0, TT0 = F_J7_fill_55 a1 x2 I J R := ⟨_, rfl⟩
  have hv := hT
  unfold F_J7_fill_55 at hv
  refine lv_iconst (v := 0) hx hb dJ7_fill_53178_0 (by decide) ?_
  refine lv_istore_n (lv' := [(2, .int 0), (0, .ref a1), (1, .int x2)]) hx hb dJ7_fill_53178_1 rfl hl (by decide) rfl (fun ls hl => ?_)
  refine lv_aload_n hx hb dJ7_fill_53178_2 rfl (lv_at hl 1 rfl) ?_
  refine hLen (v := 4) hx hb hH m1 k1 (Or.inl rfl) rfl dJ7_fill_53178_3 ?_
  refine lv_istore_n (lv' := [(3, .int 4), (2, .int 0), (0, .ref a1), (1, .int x2)]) hx hb dJ7_fill_53178_4 rfl hl (by decide) rfl (fun ls hl => ?_)
  have L_5 : ∀ (n_5 : Nat) (I_5 : hI) (H : Heap) (locs : List Loc) (ls : Array Slot) (x2_5 : Int32), (4 - x2_5.toInt).toNat < n_5 → Hp D cy L C b0 s s.heap I_5 J R H locs → TT0 = F_J7_fill_55_5 a1 x2 n_5 I_5 J R x2_5 → OkI L C I_5 → Sm C ms_J7_fill_55 (I, J, R) (I_5, J, R) → Rg x2 (-1000) (1000) → Rg x2_5 (0) (4) → lv_has ls 4 [(0, .ref a1), (1, .int x2), (2, .int x2_5), (3, .int 4)] → W p l e (rmD 0) s m args below meth c H locs 0 0 Q (F0 m 5 ls []) := by
    intro n_5
    induction n_5 with
    | zero => intro I_5 H locs ls x2_5 h; exact absurd h (Nat.not_lt_zero _)
    | succ n_5 ih_5 =>
      intro I_5 H locs ls x2_5 hn_5 hH hv oI sm r1_5 r2_5 hl
      replace hv := hv.trans F_J7_fill_55_5_s
      unfold B_J7_fill_55_5 at hv
      refine lv_iload_n hx hb dJ7_fill_53178_5 rfl (lv_at hl 2 rfl) ?_
      refine lv_iload_n hx hb dJ7_fill_53178_6 rfl (lv_at hl 3 rfl) ?_
      refine lv_icmp_ge (tgt := 20) hx hb dJ7_fill_53178_7 (by decide) (fun q1 => ?_) (fun q1 => ?_)
      · replace hv := fnP hv q1
        have r2 : Rg x2_5 (4) (4) := Rg_lle r2_5 (Rg_le q1) (Rg_c (x := 4) (a := (4)) (b := (4)) (by decide)) (by decide)
        exact ret _ _ _ _ _ _ _ dJ7_fill_53178_20 hH ⟨⟨oI, oR, sm⟩, rfl, rfl, (hT.symm.trans hv)⟩
      replace hv := fnN hv q1
      have r3 : Rg x2_5 (0) (3) := Rg_ult r2_5 (Rg_nle q1) (Rg_c (x := 4) (a := (4)) (b := (4)) (by decide)) (by decide)
      refine lv_aload_n hx hb dJ7_fill_53178_10 rfl (lv_at hl 0 rfl) ?_
      refine lv_iload_n hx hb dJ7_fill_53178_11 rfl (lv_at hl 2 rfl) ?_
      refine lv_iload_n hx hb dJ7_fill_53178_12 rfl (lv_at hl 1 rfl) ?_
      refine st_55 hx hb hH m1 k1 (Rg_in r3 (by decide)) dJ7_fill_53178_13 (fun I4 H locs eI4 hH => ?_)
      replace hv := fnS hv eI4
      have oI : OkI L C I4 := by rw [eI4]; exact wr_55 oI k1 r1_5
      have sm : Sm C ms_J7_fill_55 (I, J, R) (I4, J, R) := by rw [eI4]; exact sm.stI k1 (mC_arr (by decide) rfl)
      obtain ⟨y5, ey5⟩ : ∃ y : Int32, y = x2_5 + 1 := ⟨_, rfl⟩
      replace hv := fnS hv ey5
      obtain ⟨ty5, ry5⟩ := Rg_addx (a' := (1)) (b' := (4)) (rfl : x2_5.toInt = _) (by decide : Int32.toInt 1 = 1) r3 (Rg_c (x := 1) (a := (1)) (b := (1)) (by decide)) (by decide)
      rw [← ey5] at ty5 ry5
      refine lv_iinc (v := y5) (lv' := [(2, .int y5), (0, .ref a1), (1, .int x2), (3, .int 4)]) hx hb dJ7_fill_53178_14 hl (k := 2) rfl (by rw [ey5]; rfl) (by decide) rfl (fun ls hl => ?_)
      refine lv_goto (tgt := 5) hx hb dJ7_fill_53178_17 (by decide) ?_
      exact ih_5 I4 _ _ _ y5 (lp_up hn_5 ty5 (Rg_ltc r3 (by decide))) hH hv oI sm r1_5 (Rg_w ry5 (by decide)) (lv_sub hl [1, 2, 0, 3] rfl)
  exact L_5 ((4 - (0 : Int32).toInt).toNat + 1) I _ _ _ 0 (Nat.lt_succ_self _) hH hv oI sm h2 (Rg_w (Rg_c (x := 0) (a := (0)) (b := (0)) (by decide)) (by decide)) (lv_sub hl [2, 3, 1, 0] rfl)
noncomputable def F_X4_noteFailure (a0 : Nat) (x1 : Int32) (x2 : Int32) (I : hI) (J : hJ) (R : hR) : hU :=
  nm (u2 I a0 1 x1) fun I1 => nm (u2 I1 a0 2 x2) fun I3 => (I3, J, R)
def ms_X4_noteFailure : List Nat := [257, 258]
set_option maxHeartbeats 4000000 in
set_option maxRecDepth 100000 in
theorem c_X4_noteFailure {l : Launch} {D : va_G} {cy : Nat → ClassId} {L : List Nat} {C : Nat → Nat} {b0 : Nat} {I : hI} {J : hJ} {R : hR} {a0 : Nat} {x1 : Int32} {x2 : Int32} (oI : OkI L C I) (oR : OkR L C R) (m0 : a0 ∈ L) (k0 : C a0 = 4) : CV l yX4_noteFailure cX4_noteFailure 3 0 D cy L C b0 [.ref a0, .int x1, .int x2] (I, J, R) (fun v => Ps L C ms_X4_noteFailure (I, J, R) v ∧ v.2.1 = J ∧ v.2.2 = R ∧ F_X4_noteFailure a0 x1 x2 I J R = v) := by
  refine CV.mk (plainFor_of_name (by decide)) (Nat.le_of_ble_eq_true rfl) ?_
  intro p e s m args below meth c ls Q hF ret hH hl
  obtain ⟨hx, hb, -, hml, hown, hts, -⟩ := hF
  have hl : lv_has ls 3 [(0, .ref a0), (1, .int x1), (2, .int x2)] := hl
  have hH : Hp D cy L C b0 s s.heap I J R s.heap [] := hH
  have sm : Sm C ms_X4_noteFailure (I, J, R) (I, J, R) := Sm.rf
  obtain ⟨TT0, hT⟩ : ∃ TT0, TT0 = F_X4_noteFailure a0 x1 x2 I J R := ⟨_, rfl⟩
  have hv := hT
  unfold F_X4_noteFailure at hv
  refine lv_aload_n hx hb dX4_noteFailure_0 rfl (lv_at hl 0 rfl) ?_
  refine lv_iload_n hx hb dX4_noteFailure_1 rfl (lv_at hl 1 rfl) ?_
  refine pf_4_1 hx hb hts hown hH m0 k0 rfl kf_X4_15 dX4_noteFailure_2 (fun I1 H locs eI1 hH => ?_)
  replace hv := fnS hv eI1
  have oI : OkI L C I1 := by rw [eI1]; exact wf_4_1 oI k0 (Rg_any x1)
  have sm : Sm C ms_X4_noteFailure (I, J, R) (I1, J, R) := by rw [eI1]; exact sm.stI k0 (mC_obj (by decide) rfl)
  have f2 : x1 = I1 a0 1 := by rw [eI1, u2_at]
  refine lv_aload_n hx hb dX4_noteFailure_5 rfl (lv_at hl 0 rfl) ?_
  refine lv_iload_n hx hb dX4_noteFailure_6 rfl (lv_at hl 2 rfl) ?_
  refine pf_4_2 hx hb hts hown hH m0 k0 rfl kf_X4_19 dX4_noteFailure_7 (fun I3 H locs eI3 hH => ?_)
  replace hv := fnS hv eI3
  have oI : OkI L C I3 := by rw [eI3]; exact wf_4_2 oI k0 (Rg_any x2)
  have sm : Sm C ms_X4_noteFailure (I, J, R) (I3, J, R) := by rw [eI3]; exact sm.stI k0 (mC_obj (by decide) rfl)
  have f4 : x2 = I3 a0 2 := by rw [eI3, u2_at]
  exact ret _ _ _ _ _ _ _ dX4_noteFailure_10 hH ⟨⟨oI, oR, sm⟩, rfl, rfl, (hT.symm.trans hv)⟩
noncomputable def F_X5_setWork (a0 : Nat) (x1 : Int32) (x2 : Int32) (x3 : Int32) (I : hI) (J : hJ) (R : hR) : hU :=
  nm (u2 I a0 4 x1) fun I1 => nm (u2 I1 a0 5 x2) fun I3 => nm (u2 I3 a0 6 x3) fun I5 => (I5, J, R)
def ms_X5_setWork : List Nat := [324, 325, 326]
set_option maxHeartbeats 4000000 in
set_option maxRecDepth 100000 in
theorem c_X5_setWork {l : Launch} {D : va_G} {cy : Nat → ClassId} {L : List Nat} {C : Nat → Nat} {b0 : Nat} {I : hI} {J : hJ} {R : hR} {a0 : Nat} {x1 : Int32} {x2 : Int32} {x3 : Int32} (oI : OkI L C I) (oR : OkR L C R) (m0 : a0 ∈ L) (k0 : C a0 = 5) (h1 : Rg x1 (0) (2)) (h2 : Rg x2 (-1) (2)) (hXM : XM L C I) (hk : x1.toInt ≠ 0 → 0 ≤ x2.toInt) : CV l yX5_setWork cX5_setWork 4 0 D cy L C b0 [.ref a0, .int x1, .int x2, .int x3] (I, J, R) (fun v => Ps L C ms_X5_setWork (I, J, R) v ∧ v.2.1 = J ∧ v.2.2 = R ∧ (XM L C v.1) ∧ F_X5_setWork a0 x1 x2 x3 I J R = v) := by
  refine CV.mk (plainFor_of_name (by decide)) (Nat.le_of_ble_eq_true rfl) ?_
  intro p e s m args below meth c ls Q hF ret hH hl
  obtain ⟨hx, hb, -, hml, hown, hts, -⟩ := hF
  have hl : lv_has ls 4 [(0, .ref a0), (1, .int x1), (2, .int x2), (3, .int x3)] := hl
  have hH : Hp D cy L C b0 s s.heap I J R s.heap [] := hH
  have sm : Sm C ms_X5_setWork (I, J, R) (I, J, R) := Sm.rf
  obtain ⟨TT0, hT⟩ : ∃ TT0, TT0 = F_X5_setWork a0 x1 x2 x3 I J R := ⟨_, rfl⟩
  have hv := hT
  unfold F_X5_setWork at hv
  refine lv_aload_n hx hb dX5_setWork_0 rfl (lv_at hl 0 rfl) ?_
  refine lv_iload_n hx hb dX5_setWork_1 rfl (lv_at hl 1 rfl) ?_
  refine pf_5_4 hx hb hts hown hH m0 k0 rfl kf_X5_25 dX5_setWork_2 (fun I1 H locs eI1 hH => ?_)
  replace hv := fnS hv eI1
  have oI : OkI L C I1 := by rw [eI1]; exact wf_5_4 oI k0 h1
  have sm : Sm C ms_X5_setWork (I, J, R) (I1, J, R) := by rw [eI1]; exact sm.stI k0 (mC_obj (by decide) rfl)
  have f2 : x1 = I1 a0 4 := by rw [eI1, u2_at]
  refine lv_aload_n hx hb dX5_setWork_5 rfl (lv_at hl 0 rfl) ?_
  refine lv_iload_n hx hb dX5_setWork_6 rfl (lv_at hl 2 rfl) ?_
  refine pf_5_5 hx hb hts hown hH m0 k0 rfl kf_X5_28 dX5_setWork_7 (fun I3 H locs eI3 hH => ?_)
  replace hv := fnS hv eI3
  have oI : OkI L C I3 := by rw [eI3]; exact wf_5_5 oI k0 h2
  have sm : Sm C ms_X5_setWork (I, J, R) (I3, J, R) := by rw [eI3]; exact sm.stI k0 (mC_obj (by decide) rfl)
  have f4 : x2 = I3 a0 5 := by rw [eI3, u2_at]
  refine lv_aload_n hx hb dX5_setWork_10 rfl (lv_at hl 0 rfl) ?_
  refine lv_iload_n hx hb dX5_setWork_11 rfl (lv_at hl 3 rfl) ?_
  refine pf_5_6 hx hb hts hown hH m0 k0 rfl kf_X5_31 dX5_setWork_12 (fun I5 H locs eI5 hH => ?_)
  replace hv := fnS hv eI5
  have oI : OkI L C I5 := by rw [eI5]; exact wf_5_6 oI k0 (Rg_any x3)
  have sm : Sm C ms_X5_setWork (I, J, R) (I5, J, R) := by rw [eI5]; exact sm.stI k0 (mC_obj (by decide) rfl)
  have f6 : x3 = I5 a0 6 := by rw [eI5, u2_at]
  exact ret _ _ _ _ _ _ _ dX5_setWork_15 hH ⟨⟨oI, oR, sm⟩, rfl, rfl, (by exact (by rw [eI5]; exact XM.off (by rw [eI3, eI1]; exact XM.put hXM hk) k0 (Or.inr ⟨by decide, by decide⟩))), (hT.symm.trans hv)⟩
noncomputable def B_X5_become_25 (a0 : Nat) (x1 : Int32) (x2 : Int32) (y9 : Int32) (y3 : Int32) (k_25 : hI → hJ → hR → Int32 → Int32 → (hU)) (I_25 : hI) (J : hJ) (R : hR) (x3_25 : Int32) (x4_25 : Int32) : hU :=
  nm (I_25 a0 2) fun zm2_25 => (if (4 : Int32) ≤ x4_25 then nmW (F_X5_setWork a0 (0 : Int32) (-1 : Int32) (0 : Int32) I_25 J R) fun I13 _ _ => nm ((R a0 7).getD 0) fun b14 => nmW (F_J7_fill_55 b14 (1 : Int32) I13 J R) fun I15 _ _ => (I15, J, R) else (if x3_25 = (0 : Int32) then nmW (F_X5_setWork a0 (0 : Int32) (-1 : Int32) (0 : Int32) I_25 J R) fun I21 _ _ => nm ((R a0 7).getD 0) fun b22 => nmW (F_J7_fill_55 b22 (1 : Int32) I21 J R) fun I23 _ _ => (I23, J, R) else nm ((R a0 3).getD 0) fun b26 => nm (x3_25 &&& (7 : Int32)) fun y27 => nm (y27 - (1 : Int32)) fun y29 => nm (u2 I_25 b26 (Int32.toNatClampNeg x4_25) y29) fun I30 => nm (x3_25 >>> ((3 : Int32) &&& 31)) fun y31 => nm (zm2_25 + (1 : Int32)) fun y36 => nm (u2 I30 a0 2 y36) fun I37 => nm (x4_25 + (1 : Int32)) fun y39 => k_25 I37 J R y31 y39))
noncomputable def F_X5_become_25 (a0 : Nat) (x1 : Int32) (x2 : Int32) (y9 : Int32) (y3 : Int32) : Nat → hI → hJ → hR → Int32 → Int32 → (hU) := fun n => Nat.rec (motive := fun _ => hI → hJ → hR → Int32 → Int32 → (hU)) (fun _ _ _ _ _ => default) (fun _ k => B_X5_become_25 a0 x1 x2 y9 y3 k) n
theorem F_X5_become_25_s {a0 : Nat} {x1 : Int32} {x2 : Int32} {y9 : Int32} {y3 : Int32} {n : Nat} {I_25 : hI} {J : hJ} {R : hR} {x3_25 : Int32} {x4_25 : Int32} : F_X5_become_25 a0 x1 x2 y9 y3 (n + 1)  I_25 J R x3_25 x4_25 = B_X5_become_25 a0 x1 x2 y9 y3 (F_X5_become_25 a0 x1 x2 y9 y3 n)  I_25 J R x3_25 x4_25 := rfl
noncomputable def F_X5_become (a0 : Nat) (x1 : Int32) (x2 : Int32) (I : hI) (J : hJ) (R : hR) : hU :=
  nm (u2 I a0 0 x1) fun I1 => nm (x2 &&& (7 : Int32)) fun y3 => nm (u2 I1 a0 1 y3) fun I5 => nm (u2 I5 a0 2 (0 : Int32)) fun I7 => nm (x2 >>> ((3 : Int32) &&& 31)) fun y9 => F_X5_become_25 a0 x1 x2 y9 y3 ((4 - (0 : Int32).toInt).toNat + 1) I7 J R y9 (0 : Int32)
def ms_X5_become : List Nat := [320, 321, 322, 324, 325, 326, 3456, 3520]
set_option maxHeartbeats 4000000 in
set_option maxRecDepth 100000 in
theorem c_X5_become {l : Launch} {D : va_G} {cy : Nat → ClassId} {L : List Nat} {C : Nat → Nat} {b0 : Nat} {I : hI} {J : hJ} {R : hR} {a0 : Nat} {x1 : Int32} {x2 : Int32} (oI : OkI L C I) (oR : OkR L C R) (m0 : a0 ∈ L) (k0 : C a0 = 5) (h1 : Rg x1 (0) (99)) (h2 : Rg x2 (0) (2147483647)) (hXM : XM L C I) (hD : Dg x2.toInt) : CV l yX5_become cX5_become 5 1 D cy L C b0 [.ref a0, .int x1, .int x2] (I, J, R) (fun v => Ps L C ms_X5_become (I, J, R) v ∧ v.2.1 = J ∧ v.2.2 = R ∧ (XM L C v.1) ∧ F_X5_become a0 x1 x2 I J R = v) := by
  refine CV.mk (plainFor_of_name (by decide)) (Nat.le_of_ble_eq_true rfl) ?_
  intro p e s m args below meth c ls Q hF ret hH hl
  obtain ⟨hx, hb, -, hml, hown, hts, -⟩ := hF
  have hl : lv_has ls 5 [(0, .ref a0), (1, .int x1), (2, .int x2)] := hl
  have hH : Hp D cy L C b0 s s.heap I J R s.heap [] := hH
  have sm : Sm C ms_X5_become (I, J, R) (I, J, R) := Sm.rf
  obtain ⟨TT0, hT⟩ : ∃ TT0, TT0 = F_X5_become a0 x1 x2 I J R := ⟨_, rfl⟩
  have hv := hT
  unfold F_X5_become at hv
  refine lv_aload_n hx hb dX5_become_0 rfl (lv_at hl 0 rfl) ?_
  refine lv_iload_n hx hb dX5_become_1 rfl (lv_at hl 1 rfl) ?_
  refine pf_5_0 hx hb hts hown hH m0 k0 rfl kf_X5_9 dX5_become_2 (fun I1 H locs eI1 hH => ?_)
  replace hv := fnS hv eI1
  have oI : OkI L C I1 := by rw [eI1]; exact wf_5_0 oI k0 h1
  have sm : Sm C ms_X5_become (I, J, R) (I1, J, R) := by rw [eI1]; exact sm.stI k0 (mC_obj (by decide) rfl)
  have f2 : x1 = I1 a0 0 := by rw [eI1, u2_at]
  refine lv_aload_n hx hb dX5_become_5 rfl (lv_at hl 0 rfl) ?_
  refine lv_iload_n hx hb dX5_become_6 rfl (lv_at hl 2 rfl) ?_
  refine lv_bipush (v := 7) hx hb dX5_become_7 (by decide) ?_
  refine lv_iand hx hb dX5_become_9 ?_
  refine lv_topi (fun y3 ey3 => ?_)
  replace hv := fnS hv ey3
  have ry3 : Rg y3 0 7 := by rw [ey3]; exact Rg_and7 _
  have ty3 : y3.toInt = x2.toInt % 8 := by rw [ey3]; exact and7_mod h2 (by decide)
  have r4 : Rg y3 (0) (6) := ⟨ry3.1, by rw [ty3]; exact hD.2.1⟩
  refine pf_5_1 hx hb hts hown hH m0 k0 rfl kf_X5_15 dX5_become_10 (fun I5 H locs eI5 hH => ?_)
  replace hv := fnS hv eI5
  have oI : OkI L C I5 := by rw [eI5]; exact wf_5_1 oI k0 r4
  have sm : Sm C ms_X5_become (I, J, R) (I5, J, R) := by rw [eI5]; exact sm.stI k0 (mC_obj (by decide) rfl)
  have f6 : y3 = I5 a0 1 := by rw [eI5, u2_at]
  refine lv_aload_n hx hb dX5_become_13 rfl (lv_at hl 0 rfl) ?_
  refine lv_iconst (v := 0) hx hb dX5_become_14 (by decide) ?_
  refine pf_5_2 hx hb hts hown hH m0 k0 rfl kf_X5_18 dX5_become_15 (fun I7 H locs eI7 hH => ?_)
  replace hv := fnS hv eI7
  have oI : OkI L C I7 := by rw [eI7]; exact wf_5_2 oI k0 (Rg_w (Rg_c (x := 0) (a := (0)) (b := (0)) (by decide)) (by decide))
  have sm : Sm C ms_X5_become (I, J, R) (I7, J, R) := by rw [eI7]; exact sm.stI k0 (mC_obj (by decide) rfl)
  have f8 : 0 = I7 a0 2 := by rw [eI7, u2_at]
  refine lv_iload_n hx hb dX5_become_18 rfl (lv_at hl 2 rfl) ?_
  refine lv_iconst (v := 3) hx hb dX5_become_19 (by decide) ?_
  refine lv_ishr hx hb dX5_become_20 ?_
  refine lv_topi (fun y9 ey9 => ?_)
  replace hv := fnS hv ey9
  obtain ⟨ty9, ry9⟩ := Rg_shr3 (a' := (0)) (b' := (268435455)) h2 (by decide)
  rw [← ey9] at ty9 ry9
  refine lv_istore_n (lv' := [(3, .int y9), (0, .ref a0), (1, .int x1), (2, .int x2)]) hx hb dX5_become_21 rfl hl (by decide) rfl (fun ls hl => ?_)
  refine lv_iconst (v := 0) hx hb dX5_become_22 (by decide) ?_
  refine lv_istore (lv' := [(4, .int 0), (3, .int y9), (0, .ref a0), (1, .int x1), (2, .int x2)]) hx hb dX5_become_23 hl (by decide) rfl (fun ls hl => ?_)
  have L_25 : ∀ (n_25 : Nat) (I_25 : hI) (H : Heap) (locs : List Loc) (ls : Array Slot) (x3_25 : Int32) (x4_25 : Int32), (4 - x4_25.toInt).toNat < n_25 → Hp D cy L C b0 s s.heap I_25 J R H locs → TT0 = F_X5_become_25 a0 x1 x2 y9 y3 n_25 I_25 J R x3_25 x4_25 → OkI L C I_25 → Sm C ms_X5_become (I, J, R) (I_25, J, R) → Rg x3_25 (0) (268435455) → Rg x4_25 (0) (4) → Rg (I_25 a0 2) (0) (4) → (Int32.toInt x3_25 = (((Int32.toInt x2).toNat / 8 / 8 ^ (Int32.toInt x4_25).toNat : Nat) : Int)) → ((I_25 a0 2).toInt = Int32.toInt x4_25) → (XM L C I_25) → lv_has ls 5 [(0, .ref a0), (3, .int x3_25), (4, .int x4_25)] → W p l e (rmD 1) s m args below meth c H locs 0 0 Q (F0 m 25 ls []) := by
    intro n_25
    induction n_25 with
    | zero => intro I_25 H locs ls x3_25 x4_25 h; exact absurd h (Nat.not_lt_zero _)
    | succ n_25 ih_25 =>
      intro I_25 H locs ls x3_25 x4_25 hn_25 hH hv oI sm r3_25 r4_25 hm2_25 g0_25 g1_25 g2_25 hl
      replace hv := hv.trans F_X5_become_25_s
      unfold B_X5_become_25 at hv
      obtain ⟨zm2_25, em2_25⟩ : ∃ y : Int32, y = I_25 a0 2 := ⟨_, rfl⟩
      have rm2_25 : Rg zm2_25 (0) (4) := by rw [em2_25]; exact hm2_25
      replace hv := fnS hv em2_25
      refine lv_iload hx hb dX5_become_25 (lv_at hl 2 rfl) ?_
      refine lv_iconst (v := 4) hx hb dX5_become_27 (by decide) ?_
      refine lv_icmp_ge (tgt := 68) hx hb dX5_become_28 (by decide) (fun q10 => ?_) (fun q10 => ?_)
      · replace hv := fnP hv q10
        have l11 := Rg_le q10
        have r12 : Rg x4_25 (4) (4) := Rg_lle r4_25 (Rg_le q10) (Rg_c (x := 4) (a := (4)) (b := (4)) (by decide)) (by decide)
        refine lv_aload_n hx hb dX5_become_68 rfl (lv_at hl 0 rfl) ?_
        refine lv_iconst (v := 0) hx hb dX5_become_69 (by decide) ?_
        refine lv_iconst (v := (-1)) hx hb dX5_become_70 (by decide) ?_
        refine lv_iconst (v := 0) hx hb dX5_become_71 (by decide) ?_
        refine ca_X5_37 hx hb hml hown hts hH (c_X5_setWork oI oR m0 k0 (Rg_w (Rg_c (x := 0) (a := (0)) (b := (0)) (by decide)) (by decide)) (Rg_w (Rg_c (x := (-1)) (a := (-1)) (b := (-1)) (by decide)) (by decide)) (by exact g2_25) (by exact fun h => absurd (by decide : Int32.toInt 0 = 0) h)) hl.1 m0 k0 rfl (by decide) (Nat.le_of_ble_eq_true rfl) ⟨Nat.zero_le _, Nat.zero_le _⟩ dX5_become_72 (fun I13 J13 R13 H locs hp hH => ?_)
        obtain ⟨⟨oI, -, sc13⟩, eJ13, eR13, hp13, hf13⟩ := hp
        obtain rfl : J = J13 := eJ13.symm
        obtain rfl : R = R13 := eR13.symm
        replace hv := fnW hv hf13
        have sm : Sm C ms_X5_become (I, J, R) (I13, J, R) := sm.tr sc13 rfl
        refine lv_aload_n hx hb dX5_become_75 rfl (lv_at hl 0 rfl) ?_
        obtain ⟨b14, mb14, vb14, kb14⟩ := rf_5_7 oR m0 k0
        replace hv := fnR hv vb14
        refine gf_5_7 vb14 hx hb hts hown hH m0 k0 rfl kf_X5_34 dX5_become_76 ?_
        refine lv_iconst (v := 1) hx hb dX5_become_79 (by decide) ?_
        refine ca_X5_41 hx hb hml hown hts hH (c_J7_fill_55 oI oR mb14 kb14 (Rg_w (Rg_c (x := 1) (a := (1)) (b := (1)) (by decide)) (by decide))) hl.1 (by decide) (Nat.le_of_ble_eq_true rfl) ⟨Nat.zero_le _, Nat.zero_le _⟩ dX5_become_80 (fun I15 J15 R15 H locs hp hH => ?_)
        obtain ⟨⟨oI, -, sc15⟩, eJ15, eR15, hf15⟩ := hp
        obtain rfl : J = J15 := eJ15.symm
        obtain rfl : R = R15 := eR15.symm
        replace hv := fnW hv hf15
        have sm : Sm C ms_X5_become (I, J, R) (I15, J, R) := sm.tr sc15 rfl
        exact ret _ _ _ _ _ _ _ dX5_become_83 hH ⟨⟨oI, oR, sm⟩, rfl, rfl, (by exact (XM.sm (u := (I13, _, _)) (v := (I15, _, _)) hp13 sc15 rfl rfl)), (hT.symm.trans hv)⟩
      replace hv := fnN hv q10
      have l16 := Rg_nle q10
      have r17 : Rg x4_25 (0) (3) := Rg_ult r4_25 (Rg_nle q10) (Rg_c (x := 4) (a := (4)) (b := (4)) (by decide)) (by decide)
      refine lv_iload_n hx hb dX5_become_31 rfl (lv_at hl 1 rfl) ?_
      refine lv_if_eq (tgt := 68) hx hb dX5_become_32 (by decide) (fun q18 => ?_) (fun q18 => ?_)
      · replace hv := fnP hv q18
        have l19 := congrArg Int32.toInt q18
        have r20 : Rg x3_25 (0) (0) := Rg_both r3_25 (Rg_eqv q18 (Rg_c (x := 0) (a := (0)) (b := (0)) (by decide))) (by decide)
        refine lv_aload_n hx hb dX5_become_68 rfl (lv_at hl 0 rfl) ?_
        refine lv_iconst (v := 0) hx hb dX5_become_69 (by decide) ?_
        refine lv_iconst (v := (-1)) hx hb dX5_become_70 (by decide) ?_
        refine lv_iconst (v := 0) hx hb dX5_become_71 (by decide) ?_
        refine ca_X5_37 hx hb hml hown hts hH (c_X5_setWork oI oR m0 k0 (Rg_w (Rg_c (x := 0) (a := (0)) (b := (0)) (by decide)) (by decide)) (Rg_w (Rg_c (x := (-1)) (a := (-1)) (b := (-1)) (by decide)) (by decide)) (by exact g2_25) (by exact fun h => absurd (by decide : Int32.toInt 0 = 0) h)) hl.1 m0 k0 rfl (by decide) (Nat.le_of_ble_eq_true rfl) ⟨Nat.zero_le _, Nat.zero_le _⟩ dX5_become_72 (fun I21 J21 R21 H locs hp hH => ?_)
        obtain ⟨⟨oI, -, sc21⟩, eJ21, eR21, hp21, hf21⟩ := hp
        obtain rfl : J = J21 := eJ21.symm
        obtain rfl : R = R21 := eR21.symm
        replace hv := fnW hv hf21
        have sm : Sm C ms_X5_become (I, J, R) (I21, J, R) := sm.tr sc21 rfl
        refine lv_aload_n hx hb dX5_become_75 rfl (lv_at hl 0 rfl) ?_
        obtain ⟨b22, mb22, vb22, kb22⟩ := rf_5_7 oR m0 k0
        replace hv := fnR hv vb22
        refine gf_5_7 vb22 hx hb hts hown hH m0 k0 rfl kf_X5_34 dX5_become_76 ?_
        refine lv_iconst (v := 1) hx hb dX5_become_79 (by decide) ?_
        refine ca_X5_41 hx hb hml hown hts hH (c_J7_fill_55 oI oR mb22 kb22 (Rg_w (Rg_c (x := 1) (a := (1)) (b := (1)) (by decide)) (by decide))) hl.1 (by decide) (Nat.le_of_ble_eq_true rfl) ⟨Nat.zero_le _, Nat.zero_le _⟩ dX5_become_80 (fun I23 J23 R23 H locs hp hH => ?_)
        obtain ⟨⟨oI, -, sc23⟩, eJ23, eR23, hf23⟩ := hp
        obtain rfl : J = J23 := eJ23.symm
        obtain rfl : R = R23 := eR23.symm
        replace hv := fnW hv hf23
        have sm : Sm C ms_X5_become (I, J, R) (I23, J, R) := sm.tr sc23 rfl
        exact ret _ _ _ _ _ _ _ dX5_become_83 hH ⟨⟨oI, oR, sm⟩, rfl, rfl, (by exact (XM.sm (u := (I21, _, _)) (v := (I23, _, _)) hp21 sc23 rfl rfl)), (hT.symm.trans hv)⟩
      replace hv := fnN hv q18
      have l24 := Rg_ne q18
      have r25 : Rg x3_25 (1) (268435455) := Rg_nelo r3_25 (Rg_ne q18) (Rg_c (x := 0) (a := (0)) (b := (0)) (by decide)) (by decide)
      refine lv_aload_n hx hb dX5_become_35 rfl (lv_at hl 0 rfl) ?_
      obtain ⟨b26, mb26, vb26, kb26⟩ := rf_5_3 oR m0 k0
      replace hv := fnR hv vb26
      refine gf_5_3 vb26 hx hb hts hown hH m0 k0 rfl kf_X5_21 dX5_become_36 ?_
      refine lv_iload hx hb dX5_become_39 (lv_at hl 2 rfl) ?_
      refine lv_iload_n hx hb dX5_become_41 rfl (lv_at hl 1 rfl) ?_
      refine lv_bipush (v := 7) hx hb dX5_become_42 (by decide) ?_
      refine lv_iand hx hb dX5_become_44 ?_
      refine lv_topi (fun y27 ey27 => ?_)
      replace hv := fnS hv ey27
      have ry27 : Rg y27 0 7 := by rw [ey27]; exact Rg_and7 _
      have ty27 : y27.toInt = x3_25.toInt % 8 := by rw [ey27]; exact and7_mod r25 (by decide)
      have r28 : Rg y27 (1) (7) := ⟨by have a1 := hD.digit (i := (Int32.toInt x4_25).toNat) (by have a2 := g0_25; have a3 := Rg_ne0i r25 (by decide); omega); have a4 := ty27; have a5 := g0_25; have a6 := ry27.1; omega, ry27.2⟩
      refine lv_iconst (v := 1) hx hb dX5_become_45 (by decide) ?_
      refine lv_isub hx hb dX5_become_46 ?_
      refine lv_topi (fun y29 ey29 => ?_)
      replace hv := fnS hv ey29
      obtain ⟨ty29, ry29⟩ := Rg_subx (a' := (0)) (b' := (6)) (rfl : y27.toInt = _) (by decide : Int32.toInt 1 = 1) r28 (Rg_c (x := 1) (a := (1)) (b := (1)) (by decide)) (by decide)
      rw [← ey29] at ty29 ry29
      refine st_54 hx hb hH mb26 kb26 (Rg_in r17 (by decide)) dX5_become_47 (fun I30 H locs eI30 hH => ?_)
      replace hv := fnS hv eI30
      have oI : OkI L C I30 := by rw [eI30]; exact wr_54 oI kb26 ry29
      have sm : Sm C ms_X5_become (I, J, R) (I30, J, R) := by rw [eI30]; exact sm.stI kb26 (mC_arr (by decide) rfl)
      refine lv_iload_n hx hb dX5_become_48 rfl (lv_at hl 1 rfl) ?_
      refine lv_iconst (v := 3) hx hb dX5_become_49 (by decide) ?_
      refine lv_ishr hx hb dX5_become_50 ?_
      refine lv_topi (fun y31 ey31 => ?_)
      replace hv := fnS hv ey31
      obtain ⟨ty31, ry31⟩ := Rg_shr3 (a' := (0)) (b' := (33554431)) r25 (by decide)
      rw [← ey31] at ty31 ry31
      refine lv_istore_n (lv' := [(3, .int y31), (0, .ref a0), (4, .int x4_25)]) hx hb dX5_become_51 rfl hl (by decide) rfl (fun ls hl => ?_)
      refine lv_aload_n hx hb dX5_become_52 rfl (lv_at hl 1 rfl) ?_
      refine lv_dup hx hb dX5_become_53 rfl ?_
      have f33 : I30 a0 (2) = I_25 a0 (2) := (by rw [eI30, u2_ne (ne_role k0 kb26 (by decide))])
      have f32 : zm2_25 = I30 a0 (2) := em2_25.trans f33.symm
      refine gf_5_2 hx hb hts hown hH m0 k0 rfl kf_X5_18 dX5_become_54 ?_
      refine lv_topi (fun y34 ey34 => ?_)
      obtain rfl : zm2_25 = y34 := f32.trans ey34.symm
      refine lv_iconst (v := 1) hx hb dX5_become_57 (by decide) ?_
      have r35 : Rg zm2_25 (0) (3) := ⟨rm2_25.1, by have a1 := g1_25; rw [← em2_25] at a1; have a2 := r17.2; omega⟩
      refine lv_iadd hx hb dX5_become_58 ?_
      refine lv_topi (fun y36 ey36 => ?_)
      replace hv := fnS hv ey36
      obtain ⟨ty36, ry36⟩ := Rg_addx (a' := (1)) (b' := (4)) (rfl : zm2_25.toInt = _) (by decide : Int32.toInt 1 = 1) r35 (Rg_c (x := 1) (a := (1)) (b := (1)) (by decide)) (by decide)
      rw [← ey36] at ty36 ry36
      refine pf_5_2 hx hb hts hown hH m0 k0 rfl kf_X5_18 dX5_become_59 (fun I37 H locs eI37 hH => ?_)
      replace hv := fnS hv eI37
      have oI : OkI L C I37 := by rw [eI37]; exact wf_5_2 oI k0 (Rg_w ry36 (by decide))
      have sm : Sm C ms_X5_become (I, J, R) (I37, J, R) := by rw [eI37]; exact sm.stI k0 (mC_obj (by decide) rfl)
      have f38 : y36 = I37 a0 2 := by rw [eI37, u2_at]
      obtain ⟨y39, ey39⟩ : ∃ y : Int32, y = x4_25 + 1 := ⟨_, rfl⟩
      replace hv := fnS hv ey39
      obtain ⟨ty39, ry39⟩ := Rg_addx (a' := (1)) (b' := (4)) (rfl : x4_25.toInt = _) (by decide : Int32.toInt 1 = 1) r17 (Rg_c (x := 1) (a := (1)) (b := (1)) (by decide)) (by decide)
      rw [← ey39] at ty39 ry39
      refine lv_iinc (v := y39) (lv' := [(4, .int y39), (3, .int y31), (0, .ref a0)]) hx hb dX5_become_62 hl (k := 2) rfl (by rw [ey39]; rfl) (by decide) rfl (fun ls hl => ?_)
      refine lv_goto (tgt := 25) hx hb dX5_become_65 (by decide) ?_
      exact ih_25 I37 _ _ _ y31 y39 (lp_up hn_25 ty39 (Rg_ltc r17 (by decide))) hH hv oI sm (Rg_w ry31 (by decide)) (Rg_w ry39 (by decide)) (by rw [← f38]; exact Rg_w ry36 (by decide)) (by rw [show (Int32.toInt y39).toNat = (Int32.toInt x4_25).toNat + 1 by rw [ty39]; have a1 := r17.1; omega]; exact dg_step g0_25 ty31) (by rw [← f38, ty36, ty39]; have a1 := g1_25; rw [← em2_25] at a1; omega) (by exact (by rw [eI37]; exact XM.off (by rw [eI30]; exact XM.off g2_25 kb26 (Or.inl (by decide))) k0 (Or.inr ⟨by decide, by decide⟩))) (lv_sub hl [2, 1, 0] rfl)
  exact L_25 ((4 - (0 : Int32).toInt).toNat + 1) I7 _ _ _ y9 0 (Nat.lt_succ_self _) hH hv oI sm ry9 (Rg_w (Rg_c (x := 0) (a := (0)) (b := (0)) (by decide)) (by decide)) (by rw [← f8]; exact Rg_w (Rg_c (x := 0) (a := (0)) (b := (0)) (by decide)) (by decide)) (by rw [show (Int32.toInt 0).toNat = 0 by decide, Nat.pow_zero, Nat.div_one, ty9]; have a1 := h2.1; omega) (by rw [← f8]) (by exact (by rw [eI7]; exact XM.off (by rw [eI5]; exact XM.off (by rw [eI1]; exact XM.off hXM k0 (Or.inr ⟨by decide, by decide⟩)) k0 (Or.inr ⟨by decide, by decide⟩)) k0 (Or.inr ⟨by decide, by decide⟩))) (lv_sub hl [2, 1, 0] rfl)
noncomputable def F_X7_has (a0 : Nat) (x1 : Int32) (I : hI) (J : hJ) (R : hR) : Int32 :=
  nm (I a0 1) fun y1 => nm (y1 - (1 : Int32)) fun y2 => nm (F_X10_isWithin x1 (0 : Int32) y2) fun y3 => (if y3 = (1 : Int32) then (1 : Int32) else (0 : Int32))
set_option maxHeartbeats 4000000 in
set_option maxRecDepth 100000 in
theorem c_X7_has {l : Launch} {D : va_G} {cy : Nat → ClassId} {L : List Nat} {C : Nat → Nat} {b0 : Nat} {I : hI} {J : hJ} {R : hR} {a0 : Nat} {x1 : Int32} (oI : OkI L C I) (oR : OkR L C R) (m0 : a0 ∈ L) (k0 : C a0 = 7) : CI l yX7_has cX7_has 2 .boolean 1 D cy L C b0 [.ref a0, .int x1] (I, J, R) (fun r v => v.1 = I ∧ v.2.1 = J ∧ v.2.2 = R ∧ Rg r (0) (1) ∧ ((r = 1 ∧ 0 ≤ x1.toInt ∧ x1.toInt ≤ 5 ∧ x1.toInt < (I a0 1).toInt) ∨ (r = 0 ∧ ¬ (0 ≤ x1.toInt ∧ x1.toInt < (I a0 1).toInt))) ∧ F_X7_has a0 x1 I J R = r) := by
  refine CI.mkZ (plainFor_of_name (by decide)) (Nat.le_of_ble_eq_true rfl) ?_
  intro p e s m args below meth c ls Q hF ret hH hl
  obtain ⟨hx, hb, -, hml, hown, hts, -⟩ := hF
  have hl : lv_has ls 2 [(0, .ref a0), (1, .int x1)] := hl
  have hH : Hp D cy L C b0 s s.heap I J R s.heap [] := hH
  obtain ⟨TT0, hT⟩ : ∃ TT0, TT0 = F_X7_has a0 x1 I J R := ⟨_, rfl⟩
  have hv := hT
  unfold F_X7_has at hv
  refine lv_iload_n hx hb dX7_has_0 rfl (lv_at hl 1 rfl) ?_
  refine lv_iconst (v := 0) hx hb dX7_has_1 (by decide) ?_
  refine lv_aload_n hx hb dX7_has_2 rfl (lv_at hl 0 rfl) ?_
  refine gf_7_1 hx hb hts hown hH m0 k0 rfl kf_X7_17 dX7_has_3 ?_
  refine lv_topi (fun y1 ey1 => ?_)
  have ry1 : Rg y1 (0) (6) := by rw [ey1]; exact rf_7_1 oI m0 k0
  replace hv := fnS hv ey1
  refine lv_iconst (v := 1) hx hb dX7_has_6 (by decide) ?_
  refine lv_isub hx hb dX7_has_7 ?_
  refine lv_topi (fun y2 ey2 => ?_)
  replace hv := fnS hv ey2
  obtain ⟨ty2, ry2⟩ := Rg_subx (a' := (-1)) (b' := (5)) (rfl : y1.toInt = _) (by decide : Int32.toInt 1 = 1) ry1 (Rg_c (x := 1) (a := (1)) (b := (1)) (by decide)) (by decide)
  rw [← ey2] at ty2 ry2
  refine ca_X7_22 hx hb hml hown hts hH (c_X10_isWithin ) hl.1 (by decide) (Nat.le_of_ble_eq_true rfl) ⟨Nat.zero_le _, Nat.zero_le _⟩ dX7_has_8 (fun y3 I3 J3 R3 H locs hp hH => ?_)
  obtain ⟨eI3, eJ3, eR3, ry3, hp3, hf3⟩ := hp
  obtain rfl : I = I3 := eI3.symm
  obtain rfl : J = J3 := eJ3.symm
  obtain rfl : R = R3 := eR3.symm
  replace hv := fnS hv hf3.symm
  rcases hp3 with ⟨rfl, hq3⟩ | ⟨rfl, hq3⟩
  rotate_left
  · replace hv := fnN hv (by decide)
    exact ret (0) _ _ _ _ _ _ _ dX7_has_11 hH (Rg_01 (Rg_w (Rg_c (x := 0) (a := (0)) (b := (0)) (by decide)) (by decide))) ⟨rfl, rfl, rfl, (Rg_w (Rg_c (x := 0) (a := (0)) (b := (0)) (by decide)) (by decide)), (by have c0 : Int32.toInt 0 = 0 := (by decide); rw [← ey1]; have a4 := ty2; exact Or.inr ⟨rfl, by omega⟩), (hT.symm.trans hv)⟩
  replace hv := fnP hv rfl
  have l4 := hq3.1
  have r5 : Rg x1 (0) (2147483647) := Rg_lle (Rg_any x1) l4 (Rg_c (x := 0) (a := (0)) (b := (0)) (by decide)) (by decide)
  have l6 := hq3.2
  have r7 : Rg x1 (0) (5) := Rg_ule r5 l6 ry2 (by decide)
  have r8 : Rg y2 (0) (5) := Rg_lle ry2 l6 r5 (by decide)
  have r9 : Rg y1 (1) (6) := by have a1 := r8.1; have a2 := r8.2; have a3 := ry1.1; have a4 := ry1.2; exact ⟨by omega, by omega⟩
  exact ret (1) _ _ _ _ _ _ _ dX7_has_11 hH (Rg_01 (Rg_w (Rg_c (x := 1) (a := (1)) (b := (1)) (by decide)) (by decide))) ⟨rfl, rfl, rfl, (Rg_w (Rg_c (x := 1) (a := (1)) (b := (1)) (by decide)) (by decide)), (by have c0 : Int32.toInt 0 = 0 := (by decide); rw [← ey1]; have a1 := r7; obtain ⟨a2, a3⟩ := a1; have a4 := ty2; exact Or.inl ⟨rfl, by omega, by omega, by omega⟩), (hT.symm.trans hv)⟩
noncomputable def F_X8_has (a0 : Nat) (x1 : Int32) (I : hI) (J : hJ) (R : hR) : Int32 :=
  nm (I a0 2) fun y1 => nm (y1 - (1 : Int32)) fun y2 => nm (F_X10_isWithin x1 (0 : Int32) y2) fun y3 => (if y3 = (1 : Int32) then (1 : Int32) else (0 : Int32))
set_option maxHeartbeats 4000000 in
set_option maxRecDepth 100000 in
theorem c_X8_has {l : Launch} {D : va_G} {cy : Nat → ClassId} {L : List Nat} {C : Nat → Nat} {b0 : Nat} {I : hI} {J : hJ} {R : hR} {a0 : Nat} {x1 : Int32} (oI : OkI L C I) (oR : OkR L C R) (m0 : a0 ∈ L) (k0 : C a0 = 8) : CI l yX8_has cX8_has 2 .boolean 1 D cy L C b0 [.ref a0, .int x1] (I, J, R) (fun r v => v.1 = I ∧ v.2.1 = J ∧ v.2.2 = R ∧ Rg r (0) (1) ∧ ((r = 1 ∧ 0 ≤ x1.toInt ∧ x1.toInt ≤ 19 ∧ x1.toInt < (I a0 2).toInt) ∨ (r = 0 ∧ ¬ (0 ≤ x1.toInt ∧ x1.toInt < (I a0 2).toInt))) ∧ F_X8_has a0 x1 I J R = r) := by
  refine CI.mkZ (plainFor_of_name (by decide)) (Nat.le_of_ble_eq_true rfl) ?_
  intro p e s m args below meth c ls Q hF ret hH hl
  obtain ⟨hx, hb, -, hml, hown, hts, -⟩ := hF
  have hl : lv_has ls 2 [(0, .ref a0), (1, .int x1)] := hl
  have hH : Hp D cy L C b0 s s.heap I J R s.heap [] := hH
  obtain ⟨TT0, hT⟩ : ∃ TT0, TT0 = F_X8_has a0 x1 I J R := ⟨_, rfl⟩
  have hv := hT
  unfold F_X8_has at hv
  refine lv_iload_n hx hb dX8_has_0 rfl (lv_at hl 1 rfl) ?_
  refine lv_iconst (v := 0) hx hb dX8_has_1 (by decide) ?_
  refine lv_aload_n hx hb dX8_has_2 rfl (lv_at hl 0 rfl) ?_
  refine gf_8_2 hx hb hts hown hH m0 k0 rfl kf_X8_19 dX8_has_3 ?_
  refine lv_topi (fun y1 ey1 => ?_)
  have ry1 : Rg y1 (0) (20) := by rw [ey1]; exact rf_8_2 oI m0 k0
  replace hv := fnS hv ey1
  refine lv_iconst (v := 1) hx hb dX8_has_6 (by decide) ?_
  refine lv_isub hx hb dX8_has_7 ?_
  refine lv_topi (fun y2 ey2 => ?_)
  replace hv := fnS hv ey2
  obtain ⟨ty2, ry2⟩ := Rg_subx (a' := (-1)) (b' := (19)) (rfl : y1.toInt = _) (by decide : Int32.toInt 1 = 1) ry1 (Rg_c (x := 1) (a := (1)) (b := (1)) (by decide)) (by decide)
  rw [← ey2] at ty2 ry2
  refine ca_X8_23 hx hb hml hown hts hH (c_X10_isWithin ) hl.1 (by decide) (Nat.le_of_ble_eq_true rfl) ⟨Nat.zero_le _, Nat.zero_le _⟩ dX8_has_8 (fun y3 I3 J3 R3 H locs hp hH => ?_)
  obtain ⟨eI3, eJ3, eR3, ry3, hp3, hf3⟩ := hp
  obtain rfl : I = I3 := eI3.symm
  obtain rfl : J = J3 := eJ3.symm
  obtain rfl : R = R3 := eR3.symm
  replace hv := fnS hv hf3.symm
  rcases hp3 with ⟨rfl, hq3⟩ | ⟨rfl, hq3⟩
  rotate_left
  · replace hv := fnN hv (by decide)
    exact ret (0) _ _ _ _ _ _ _ dX8_has_11 hH (Rg_01 (Rg_w (Rg_c (x := 0) (a := (0)) (b := (0)) (by decide)) (by decide))) ⟨rfl, rfl, rfl, (Rg_w (Rg_c (x := 0) (a := (0)) (b := (0)) (by decide)) (by decide)), (by have c0 : Int32.toInt 0 = 0 := (by decide); rw [← ey1]; have a4 := ty2; exact Or.inr ⟨rfl, by omega⟩), (hT.symm.trans hv)⟩
  replace hv := fnP hv rfl
  have l4 := hq3.1
  have r5 : Rg x1 (0) (2147483647) := Rg_lle (Rg_any x1) l4 (Rg_c (x := 0) (a := (0)) (b := (0)) (by decide)) (by decide)
  have l6 := hq3.2
  have r7 : Rg x1 (0) (19) := Rg_ule r5 l6 ry2 (by decide)
  have r8 : Rg y2 (0) (19) := Rg_lle ry2 l6 r5 (by decide)
  have r9 : Rg y1 (1) (20) := by have a1 := r8.1; have a2 := r8.2; have a3 := ry1.1; have a4 := ry1.2; exact ⟨by omega, by omega⟩
  exact ret (1) _ _ _ _ _ _ _ dX8_has_11 hH (Rg_01 (Rg_w (Rg_c (x := 1) (a := (1)) (b := (1)) (by decide)) (by decide))) ⟨rfl, rfl, rfl, (Rg_w (Rg_c (x := 1) (a := (1)) (b := (1)) (by decide)) (by decide)), (by have c0 : Int32.toInt 0 = 0 := (by decide); rw [← ey1]; have a1 := r7; obtain ⟨a2, a3⟩ := a1; have a4 := ty2; exact Or.inl ⟨rfl, by omega, by omega, by omega⟩), (hT.symm.trans hv)⟩
noncomputable def F_X7_add (a0 : Nat) (x1 : Int32) (x2 : Int32) (I : hI) (J : hJ) (R : hR) : Int32 × hU :=
  nm (I a0 1) fun z1 => nm ((R a0 0).getD 0) fun b2 => nm ((R b2 (Int32.toNatClampNeg z1)).getD 0) fun b4 => nmW (F_X5_become b4 x1 x2 I J R) fun I5 _ _ => nm (z1 + (1 : Int32)) fun y9 => nm (u2 I5 a0 1 y9) fun I10 => nm (y9 - (1 : Int32)) fun y13 => (y13, (I10, J, R))
def ms_X7_add : List Nat := [320, 321, 322, 324, 325, 326, 449, 3456, 3520]
set_option maxHeartbeats 4000000 in
set_option maxRecDepth 100000 in
theorem c_X7_add {l : Launch} {D : va_G} {cy : Nat → ClassId} {L : List Nat} {C : Nat → Nat} {b0 : Nat} {I : hI} {J : hJ} {R : hR} {a0 : Nat} {x1 : Int32} {x2 : Int32} (oI : OkI L C I) (oR : OkR L C R) (m0 : a0 ∈ L) (k0 : C a0 = 7) (h1 : Rg x1 (0) (99)) (h2 : Rg x2 (0) (2147483647)) (hm1 : Rg (I a0 1) (0) (5)) (hXM : XM L C I) (hD : Dg x2.toInt) : CI l yX7_add cX7_add 3 .int 2 D cy L C b0 [.ref a0, .int x1, .int x2] (I, J, R) (fun r v => Ps L C ms_X7_add (I, J, R) v ∧ v.2.1 = J ∧ v.2.2 = R ∧ Rg r (0) (5) ∧ (XM L C v.1) ∧ F_X7_add a0 x1 x2 I J R = (r, v)) := by
  refine CI.mkI (plainFor_of_name (by decide)) (Nat.le_of_ble_eq_true rfl) ?_
  intro p e s m args below meth c ls Q hF ret hH hl
  obtain ⟨hx, hb, -, hml, hown, hts, -⟩ := hF
  have hl : lv_has ls 3 [(0, .ref a0), (1, .int x1), (2, .int x2)] := hl
  have hH : Hp D cy L C b0 s s.heap I J R s.heap [] := hH
  have sm : Sm C ms_X7_add (I, J, R) (I, J, R) := Sm.rf
  obtain ⟨TT0, hT⟩ : ∃ TT0, TT0 = F_X7_add a0 x1 x2 I J R := ⟨_, rfl⟩
  have hv := hT
  unfold F_X7_add at hv
  obtain ⟨z1, ez1⟩ : ∃ y : Int32, y = I a0 1 := ⟨_, rfl⟩
  have rz1 : Rg z1 (0) (5) := by rw [ez1]; exact hm1
  replace hv := fnS hv ez1
  refine lv_aload_n hx hb dX7_add_0 rfl (lv_at hl 0 rfl) ?_
  obtain ⟨b2, mb2, vb2, kb2⟩ := rf_7_0 oR m0 k0
  replace hv := fnR hv vb2
  refine gf_7_0 vb2 hx hb hts hown hH m0 k0 rfl kf_X7_11 dX7_add_1 ?_
  refine lv_aload_n hx hb dX7_add_4 rfl (lv_at hl 0 rfl) ?_
  refine gf_7_1 hx hb hts hown hH m0 k0 rfl kf_X7_17 dX7_add_5 ?_
  refine lv_topi (fun y3 ey3 => ?_)
  obtain rfl : z1 = y3 := ez1.trans ey3.symm
  obtain ⟨b4, mb4, vb4, kb4⟩ := rr_56 oR mb2 kb2 (Rg_in rz1 (by decide))
  replace hv := fnR hv vb4
  refine ld_56 hx hb hH mb2 kb2 (Rg_in rz1 (by decide)) vb4 dX7_add_8 ?_
  refine lv_iload_n hx hb dX7_add_9 rfl (lv_at hl 1 rfl) ?_
  refine lv_iload_n hx hb dX7_add_10 rfl (lv_at hl 2 rfl) ?_
  refine ca_X7_26 hx hb hml hown hts hH (c_X5_become oI oR mb4 kb4 h1 h2 (by exact hXM) (by exact hD)) hl.1 mb4 kb4 rfl (by decide) (Nat.le_of_ble_eq_true rfl) ⟨Nat.zero_le _, Nat.zero_le _⟩ dX7_add_11 (fun I5 J5 R5 H locs hp hH => ?_)
  obtain ⟨⟨oI, -, sc5⟩, eJ5, eR5, hp5, hf5⟩ := hp
  obtain rfl : J = J5 := eJ5.symm
  obtain rfl : R = R5 := eR5.symm
  replace hv := fnW hv hf5
  have sm : Sm C ms_X7_add (I, J, R) (I5, J, R) := sm.tr sc5 rfl
  refine lv_aload_n hx hb dX7_add_14 rfl (lv_at hl 0 rfl) ?_
  refine lv_dup hx hb dX7_add_15 rfl ?_
  have f7 : I5 a0 (1) = I a0 (1) := ((sc5 a0 1 (by rw [k0]; exact (by decide))).1)
  have f6 : z1 = I5 a0 (1) := ez1.trans f7.symm
  refine gf_7_1 hx hb hts hown hH m0 k0 rfl kf_X7_17 dX7_add_16 ?_
  refine lv_topi (fun y8 ey8 => ?_)
  obtain rfl : z1 = y8 := f6.trans ey8.symm
  refine lv_iconst (v := 1) hx hb dX7_add_19 (by decide) ?_
  refine lv_iadd hx hb dX7_add_20 ?_
  refine lv_topi (fun y9 ey9 => ?_)
  replace hv := fnS hv ey9
  obtain ⟨ty9, ry9⟩ := Rg_addx (a' := (1)) (b' := (6)) (rfl : z1.toInt = _) (by decide : Int32.toInt 1 = 1) rz1 (Rg_c (x := 1) (a := (1)) (b := (1)) (by decide)) (by decide)
  rw [← ey9] at ty9 ry9
  refine pf_7_1 hx hb hts hown hH m0 k0 rfl kf_X7_17 dX7_add_21 (fun I10 H locs eI10 hH => ?_)
  replace hv := fnS hv eI10
  have oI : OkI L C I10 := by rw [eI10]; exact wf_7_1 oI k0 (Rg_w ry9 (by decide))
  have sm : Sm C ms_X7_add (I, J, R) (I10, J, R) := by rw [eI10]; exact sm.stI k0 (mC_obj (by decide) rfl)
  have f11 : y9 = I10 a0 1 := by rw [eI10, u2_at]
  refine lv_aload_n hx hb dX7_add_24 rfl (lv_at hl 0 rfl) ?_
  refine gf_7_1 hx hb hts hown hH m0 k0 rfl kf_X7_17 dX7_add_25 ?_
  refine lv_topi (fun y12 ey12 => ?_)
  obtain rfl : y9 = y12 := f11.trans ey12.symm
  refine lv_iconst (v := 1) hx hb dX7_add_28 (by decide) ?_
  refine lv_isub hx hb dX7_add_29 ?_
  refine lv_topi (fun y13 ey13 => ?_)
  replace hv := fnS hv ey13
  obtain ⟨ty13, ry13⟩ := Rg_subx (a' := (0)) (b' := (5)) (rfl : y9.toInt = _) (by decide : Int32.toInt 1 = 1) ry9 (Rg_c (x := 1) (a := (1)) (b := (1)) (by decide)) (by decide)
  rw [← ey13] at ty13 ry13
  exact ret (y13) _ _ _ _ _ _ _ dX7_add_30 hH ⟨⟨oI, oR, sm⟩, rfl, rfl, ry13, (by exact (by rw [eI10]; exact XM.off hp5 k0 (Or.inl (by decide)))), (hT.symm.trans hv)⟩
noncomputable def F_X8_add (a0 : Nat) (x1 : Int32) (I : hI) (J : hJ) (R : hR) : Int32 × hU :=
  nm (I a0 2) fun z1 => nm ((R a0 0).getD 0) fun b2 => nm (u2 I b2 (Int32.toNatClampNeg z1) x1) fun I4 => nm (z1 + (1 : Int32)) fun y8 => nm (u2 I4 a0 2 y8) fun I9 => nm (y8 - (1 : Int32)) fun y12 => (y12, (I9, J, R))
def ms_X8_add : List Nat := [514, 3072]
set_option maxHeartbeats 4000000 in
set_option maxRecDepth 100000 in
theorem c_X8_add {l : Launch} {D : va_G} {cy : Nat → ClassId} {L : List Nat} {C : Nat → Nat} {b0 : Nat} {I : hI} {J : hJ} {R : hR} {a0 : Nat} {x1 : Int32} (oI : OkI L C I) (oR : OkR L C R) (m0 : a0 ∈ L) (k0 : C a0 = 8) (h1 : Rg x1 (0) (9)) (hm2 : Rg (I a0 2) (0) (19)) : CI l yX8_add cX8_add 2 .int 0 D cy L C b0 [.ref a0, .int x1] (I, J, R) (fun r v => Ps L C ms_X8_add (I, J, R) v ∧ v.2.1 = J ∧ v.2.2 = R ∧ Rg r (0) (19) ∧ (r = I a0 2 ∧ v.1 a0 2 = I a0 2 + 1) ∧ F_X8_add a0 x1 I J R = (r, v)) := by
  refine CI.mkI (plainFor_of_name (by decide)) (Nat.le_of_ble_eq_true rfl) ?_
  intro p e s m args below meth c ls Q hF ret hH hl
  obtain ⟨hx, hb, -, hml, hown, hts, -⟩ := hF
  have hl : lv_has ls 2 [(0, .ref a0), (1, .int x1)] := hl
  have hH : Hp D cy L C b0 s s.heap I J R s.heap [] := hH
  have sm : Sm C ms_X8_add (I, J, R) (I, J, R) := Sm.rf
  obtain ⟨TT0, hT⟩ : ∃ TT0, TT0 = F_X8_add a0 x1 I J R := ⟨_, rfl⟩
  have hv := hT
  unfold F_X8_add at hv
  obtain ⟨z1, ez1⟩ : ∃ y : Int32, y = I a0 2 := ⟨_, rfl⟩
  have rz1 : Rg z1 (0) (19) := by rw [ez1]; exact hm2
  replace hv := fnS hv ez1
  refine lv_aload_n hx hb dX8_add_0 rfl (lv_at hl 0 rfl) ?_
  obtain ⟨b2, mb2, vb2, kb2⟩ := rf_8_0 oR m0 k0
  replace hv := fnR hv vb2
  refine gf_8_0 vb2 hx hb hts hown hH m0 k0 rfl kf_X8_9 dX8_add_1 ?_
  refine lv_aload_n hx hb dX8_add_4 rfl (lv_at hl 0 rfl) ?_
  refine gf_8_2 hx hb hts hown hH m0 k0 rfl kf_X8_19 dX8_add_5 ?_
  refine lv_topi (fun y3 ey3 => ?_)
  obtain rfl : z1 = y3 := ez1.trans ey3.symm
  refine lv_iload_n hx hb dX8_add_8 rfl (lv_at hl 1 rfl) ?_
  refine st_48 hx hb hH mb2 kb2 (Rg_in rz1 (by decide)) dX8_add_9 (fun I4 H locs eI4 hH => ?_)
  replace hv := fnS hv eI4
  have oI : OkI L C I4 := by rw [eI4]; exact wr_48 oI kb2 h1
  have sm : Sm C ms_X8_add (I, J, R) (I4, J, R) := by rw [eI4]; exact sm.stI kb2 (mC_arr (by decide) rfl)
  refine lv_aload_n hx hb dX8_add_10 rfl (lv_at hl 0 rfl) ?_
  refine lv_dup hx hb dX8_add_11 rfl ?_
  have f6 : I4 a0 (2) = I a0 (2) := (by rw [eI4, u2_ne (ne_role k0 kb2 (by decide))])
  have f5 : z1 = I4 a0 (2) := ez1.trans f6.symm
  refine gf_8_2 hx hb hts hown hH m0 k0 rfl kf_X8_19 dX8_add_12 ?_
  refine lv_topi (fun y7 ey7 => ?_)
  obtain rfl : z1 = y7 := f5.trans ey7.symm
  refine lv_iconst (v := 1) hx hb dX8_add_15 (by decide) ?_
  refine lv_iadd hx hb dX8_add_16 ?_
  refine lv_topi (fun y8 ey8 => ?_)
  replace hv := fnS hv ey8
  obtain ⟨ty8, ry8⟩ := Rg_addx (a' := (1)) (b' := (20)) (rfl : z1.toInt = _) (by decide : Int32.toInt 1 = 1) rz1 (Rg_c (x := 1) (a := (1)) (b := (1)) (by decide)) (by decide)
  rw [← ey8] at ty8 ry8
  refine pf_8_2 hx hb hts hown hH m0 k0 rfl kf_X8_19 dX8_add_17 (fun I9 H locs eI9 hH => ?_)
  replace hv := fnS hv eI9
  have oI : OkI L C I9 := by rw [eI9]; exact wf_8_2 oI k0 (Rg_w ry8 (by decide))
  have sm : Sm C ms_X8_add (I, J, R) (I9, J, R) := by rw [eI9]; exact sm.stI k0 (mC_obj (by decide) rfl)
  have f10 : y8 = I9 a0 2 := by rw [eI9, u2_at]
  refine lv_aload_n hx hb dX8_add_20 rfl (lv_at hl 0 rfl) ?_
  refine gf_8_2 hx hb hts hown hH m0 k0 rfl kf_X8_19 dX8_add_21 ?_
  refine lv_topi (fun y11 ey11 => ?_)
  obtain rfl : y8 = y11 := f10.trans ey11.symm
  refine lv_iconst (v := 1) hx hb dX8_add_24 (by decide) ?_
  refine lv_isub hx hb dX8_add_25 ?_
  refine lv_topi (fun y12 ey12 => ?_)
  replace hv := fnS hv ey12
  obtain ⟨ty12, ry12⟩ := Rg_subx (a' := (0)) (b' := (19)) (rfl : y8.toInt = _) (by decide : Int32.toInt 1 = 1) ry8 (Rg_c (x := 1) (a := (1)) (b := (1)) (by decide)) (by decide)
  rw [← ey12] at ty12 ry12
  exact ret (y12) _ _ _ _ _ _ _ dX8_add_26 hH ⟨⟨oI, oR, sm⟩, rfl, rfl, ry12, (by show _ ∧ I9 a0 2 = _; rw [← f10, ← ez1]; exact ⟨i32_back ty12 ty8, ey8⟩), (hT.symm.trans hv)⟩
noncomputable def F_X2_held_36 (a0 : Nat) (b1 : Nat) (x1_13 : Int32) (x4_13 : Int32) (k_13 : hI → hJ → hR → Int32 → Int32 → (Int32)) (I : hI) (J : hJ) (R : hR) (xs0_36 : Int32) : Int32 :=
  nm (x1_13 + xs0_36) fun y2 => nm (x4_13 + (1 : Int32)) fun y3 => k_13 I J R y2 y3
noncomputable def B_X2_held_13 (a0 : Nat) (b1 : Nat) (k_13 : hI → hJ → hR → Int32 → Int32 → (Int32)) (I : hI) (J : hJ) (R : hR) (x1_13 : Int32) (x4_13 : Int32) : Int32 :=
  (if (7 : Int32) ≤ x4_13 then x1_13 else nm (I b1 (Int32.toNatClampNeg x4_13)) fun y7 => (if y7 = (0 : Int32) then F_X2_held_36 a0 b1 x1_13 x4_13 k_13 I J R (0 : Int32) else F_X2_held_36 a0 b1 x1_13 x4_13 k_13 I J R (1 : Int32)))
noncomputable def F_X2_held_13 (a0 : Nat) (b1 : Nat) : Nat → hI → hJ → hR → Int32 → Int32 → (Int32) := fun n => Nat.rec (motive := fun _ => hI → hJ → hR → Int32 → Int32 → (Int32)) (fun _ _ _ _ _ => default) (fun _ k => B_X2_held_13 a0 b1 k) n
theorem F_X2_held_13_s {a0 : Nat} {b1 : Nat} {n : Nat} {I : hI} {J : hJ} {R : hR} {x1_13 : Int32} {x4_13 : Int32} : F_X2_held_13 a0 b1 (n + 1)  I J R x1_13 x4_13 = B_X2_held_13 a0 b1 (F_X2_held_13 a0 b1 n)  I J R x1_13 x4_13 := rfl
noncomputable def F_X2_held (a0 : Nat) (I : hI) (J : hJ) (R : hR) : Int32 :=
  nm ((R a0 0).getD 0) fun b1 => F_X2_held_13 a0 b1 ((7 - (0 : Int32).toInt).toNat + 1) I J R (0 : Int32) (0 : Int32)
set_option maxHeartbeats 4000000 in
set_option maxRecDepth 100000 in
theorem c_X2_held {l : Launch} {D : va_G} {cy : Nat → ClassId} {L : List Nat} {C : Nat → Nat} {b0 : Nat} {I : hI} {J : hJ} {R : hR} {a0 : Nat} (oI : OkI L C I) (oR : OkR L C R) (m0 : a0 ∈ L) (k0 : C a0 = 2) : CI l yX2_held cX2_held 6 .int 0 D cy L C b0 [.ref a0] (I, J, R) (fun r v => v.1 = I ∧ v.2.1 = J ∧ v.2.2 = R ∧ F_X2_held a0 I J R = r) := by
  refine CI.mkI (plainFor_of_name (by decide)) (Nat.le_of_ble_eq_true rfl) ?_
  intro p e s m args below meth c ls Q hF ret hH hl
  obtain ⟨hx, hb, -, hml, hown, hts, -⟩ := hF
  have hl : lv_has ls 6 [(0, .ref a0)] := hl
  have hH : Hp D cy L C b0 s s.heap I J R s.heap [] := hH
  obtain ⟨TT0, hT⟩ : ∃ TT0, TT0 = F_X2_held a0 I J R := ⟨_, rfl⟩
  have hv := hT
  unfold F_X2_held at hv
  refine lv_iconst (v := 0) hx hb dX2_held_0 (by decide) ?_
  refine lv_istore_n (lv' := [(1, .int 0), (0, .ref a0)]) hx hb dX2_held_1 rfl hl (by decide) rfl (fun ls hl => ?_)
  refine lv_aload_n hx hb dX2_held_2 rfl (lv_at hl 1 rfl) ?_
  obtain ⟨b1, mb1, vb1, kb1⟩ := rf_2_0 oR m0 k0
  replace hv := fnR hv vb1
  refine gf_2_0 vb1 hx hb hts hown hH m0 k0 rfl kf_X2_9 dX2_held_3 ?_
  refine lv_astore_n (lv' := [(2, .ref b1), (1, .int 0), (0, .ref a0)]) hx hb dX2_held_6 rfl hl (by decide) rfl (fun ls hl => ?_)
  refine lv_aload_n hx hb dX2_held_7 rfl (lv_at hl 0 rfl) ?_
  refine hLen (v := 7) hx hb hH mb1 kb1 (Or.inr rfl) rfl dX2_held_8 ?_
  refine lv_istore_n (lv' := [(3, .int 7), (2, .ref b1), (1, .int 0), (0, .ref a0)]) hx hb dX2_held_9 rfl hl (by decide) rfl (fun ls hl => ?_)
  refine lv_iconst (v := 0) hx hb dX2_held_10 (by decide) ?_
  refine lv_istore (lv' := [(4, .int 0), (3, .int 7), (2, .ref b1), (1, .int 0), (0, .ref a0)]) hx hb dX2_held_11 hl (by decide) rfl (fun ls hl => ?_)
  have L_13 : ∀ (n_13 : Nat) (H : Heap) (locs : List Loc) (ls : Array Slot) (x1_13 : Int32) (x4_13 : Int32), (7 - x4_13.toInt).toNat < n_13 → Hp D cy L C b0 s s.heap I J R H locs → TT0 = F_X2_held_13 a0 b1 n_13 I J R x1_13 x4_13 → Rg x4_13 (0) (7) → lv_has ls 6 [(1, .int x1_13), (2, .ref b1), (3, .int 7), (4, .int x4_13)] → W p l e (rmD 0) s m args below meth c H locs 0 0 Q (F0 m 13 ls []) := by
    intro n_13
    induction n_13 with
    | zero => intro H locs ls x1_13 x4_13 h; exact absurd h (Nat.not_lt_zero _)
    | succ n_13 ih_13 =>
      intro H locs ls x1_13 x4_13 hn_13 hH hv r4_13 hl
      replace hv := hv.trans F_X2_held_13_s
      unfold B_X2_held_13 at hv
      have L_36 : ∀ (H : Heap) (locs : List Loc) (ls : Array Slot) (xs0_36 : Int32), Hp D cy L C b0 s s.heap I J R H locs → TT0 = F_X2_held_36 a0 b1 x1_13 x4_13 (F_X2_held_13 a0 b1 n_13) I J R xs0_36 → Rg xs0_36 (0) (1) → Rg x4_13 (0) (6) → lv_has ls 6 [(2, .ref b1), (3, .int 7), (4, .int x4_13)] → W p l e (rmD 0) s m args below meth c H locs 0 0 Q (F0 m 36 ls [.int xs0_36, .int x1_13]) := by
        intro H locs ls xs0_36 hH hv rs0_36 r4_36 hl
        unfold F_X2_held_36 at hv
        refine lv_iadd hx hb dX2_held_36 ?_
        refine lv_topi (fun y2 ey2 => ?_)
        replace hv := fnS hv ey2
        refine lv_istore_n (lv' := [(1, .int y2), (2, .ref b1), (3, .int 7), (4, .int x4_13)]) hx hb dX2_held_37 rfl hl (by decide) rfl (fun ls hl => ?_)
        obtain ⟨y3, ey3⟩ : ∃ y : Int32, y = x4_13 + 1 := ⟨_, rfl⟩
        replace hv := fnS hv ey3
        obtain ⟨ty3, ry3⟩ := Rg_addx (a' := (1)) (b' := (7)) (rfl : x4_13.toInt = _) (by decide : Int32.toInt 1 = 1) r4_36 (Rg_c (x := 1) (a := (1)) (b := (1)) (by decide)) (by decide)
        rw [← ey3] at ty3 ry3
        refine lv_iinc (v := y3) (lv' := [(4, .int y3), (1, .int y2), (2, .ref b1), (3, .int 7)]) hx hb dX2_held_38 hl (k := 3) rfl (by rw [ey3]; rfl) (by decide) rfl (fun ls hl => ?_)
        refine lv_goto (tgt := 13) hx hb dX2_held_41 (by decide) ?_
        exact ih_13 _ _ _ y2 y3 (lp_up hn_13 ty3 (Rg_ltc r4_36 (by decide))) hH hv (Rg_w ry3 (by decide)) (lv_sub hl [1, 2, 3, 0] rfl)
      refine lv_iload hx hb dX2_held_13 (lv_at hl 3 rfl) ?_
      refine lv_iload_n hx hb dX2_held_15 rfl (lv_at hl 2 rfl) ?_
      refine lv_icmp_ge (tgt := 44) hx hb dX2_held_16 (by decide) (fun q4 => ?_) (fun q4 => ?_)
      · replace hv := fnP hv q4
        have r5 : Rg x4_13 (7) (7) := Rg_lle r4_13 (Rg_le q4) (Rg_c (x := 7) (a := (7)) (b := (7)) (by decide)) (by decide)
        refine lv_iload_n hx hb dX2_held_44 rfl (lv_at hl 0 rfl) ?_
        exact ret (x1_13) _ _ _ _ _ _ _ dX2_held_45 hH ⟨rfl, rfl, rfl, (hT.symm.trans hv)⟩
      replace hv := fnN hv q4
      have r6 : Rg x4_13 (0) (6) := Rg_ult r4_13 (Rg_nle q4) (Rg_c (x := 7) (a := (7)) (b := (7)) (by decide)) (by decide)
      refine lv_aload_n hx hb dX2_held_19 rfl (lv_at hl 1 rfl) ?_
      refine lv_iload hx hb dX2_held_20 (lv_at hl 3 rfl) ?_
      refine ld_41 hx hb hH mb1 kb1 (Rg_in r6 (by decide)) dX2_held_22 ?_
      refine lv_topi (fun y7 ey7 => ?_)
      have ry7 : Rg y7 (0) (1) := by rw [ey7]; exact rd_41 oI mb1 kb1 (Rg_in r6 (by decide))
      replace hv := fnS hv ey7
      refine lv_istore (lv' := [(5, .int y7), (1, .int x1_13), (2, .ref b1), (3, .int 7), (4, .int x4_13)]) hx hb dX2_held_23 hl (by decide) rfl (fun ls hl => ?_)
      refine lv_iload_n hx hb dX2_held_25 rfl (lv_at hl 1 rfl) ?_
      refine lv_iload hx hb dX2_held_26 (lv_at hl 0 rfl) ?_
      refine lv_if_eq (tgt := 35) hx hb dX2_held_28 (by decide) (fun q8 => ?_) (fun q8 => ?_)
      · replace hv := fnP hv q8
        have r9 : Rg y7 (0) (0) := Rg_both ry7 (Rg_eqv q8 (Rg_c (x := 0) (a := (0)) (b := (0)) (by decide))) (by decide)
        refine lv_iconst (v := 0) hx hb dX2_held_35 (by decide) ?_
        exact L_36 _ _ _ 0 hH hv (Rg_w (Rg_c (x := 0) (a := (0)) (b := (0)) (by decide)) (by decide)) r6 (lv_sub hl [2, 3, 4] rfl)
      replace hv := fnN hv q8
      have r10 : Rg y7 (1) (1) := Rg_nelo ry7 (Rg_ne q8) (Rg_c (x := 0) (a := (0)) (b := (0)) (by decide)) (by decide)
      refine lv_iconst (v := 1) hx hb dX2_held_31 (by decide) ?_
      refine lv_goto (tgt := 36) hx hb dX2_held_32 (by decide) ?_
      exact L_36 _ _ _ 1 hH hv (Rg_w (Rg_c (x := 1) (a := (1)) (b := (1)) (by decide)) (by decide)) r6 (lv_sub hl [2, 3, 4] rfl)
  exact L_13 ((7 - (0 : Int32).toInt).toNat + 1) _ _ _ 0 0 (Nat.lt_succ_self _) hH hv (Rg_w (Rg_c (x := 0) (a := (0)) (b := (0)) (by decide)) (by decide)) (lv_sub hl [3, 2, 1, 0] rfl)
noncomputable def B_X0_placeOf_2 (a0 : Nat) (x1 : Int32) (x2 : Int32) (k_2 : hI → hJ → hR → Int32 → (Int32)) (I : hI) (J : hJ) (R : hR) (x3_2 : Int32) : Int32 :=
  nm (I a0 1) fun y1 => (if y1 ≤ x3_2 then (-1 : Int32) else nm ((R a0 0).getD 0) fun b7 => nm (I b7 (Int32.toNatClampNeg x3_2)) fun y8 => nm (x1 * (100 : Int32)) fun y9 => nm (y9 + x2) fun y10 => (if y8 = y10 then x3_2 else nm (x3_2 + (1 : Int32)) fun y13 => k_2 I J R y13))
noncomputable def F_X0_placeOf_2 (a0 : Nat) (x1 : Int32) (x2 : Int32) : Nat → hI → hJ → hR → Int32 → (Int32) := fun n => Nat.rec (motive := fun _ => hI → hJ → hR → Int32 → (Int32)) (fun _ _ _ _ => default) (fun _ k => B_X0_placeOf_2 a0 x1 x2 k) n
theorem F_X0_placeOf_2_s {a0 : Nat} {x1 : Int32} {x2 : Int32} {n : Nat} {I : hI} {J : hJ} {R : hR} {x3_2 : Int32} : F_X0_placeOf_2 a0 x1 x2 (n + 1)  I J R x3_2 = B_X0_placeOf_2 a0 x1 x2 (F_X0_placeOf_2 a0 x1 x2 n)  I J R x3_2 := rfl
noncomputable def F_X0_placeOf (a0 : Nat) (x1 : Int32) (x2 : Int32) (I : hI) (J : hJ) (R : hR) : Int32 :=
  F_X0_placeOf_2 a0 x1 x2 ((30 - (0 : Int32).toInt).toNat + 1) I J R (0 : Int32)
set_option maxHeartbeats 4000000 in
set_option maxRecDepth 100000 in
theorem c_X0_placeOf {l : Launch} {D : va_G} {cy : Nat → ClassId} {L : List Nat} {C : Nat → Nat} {b0 : Nat} {I : hI} {J : hJ} {R : hR} {a0 : Nat} {x1 : Int32} {x2 : Int32} (oI : OkI L C I) (oR : OkR L C R) (m0 : a0 ∈ L) (k0 : C a0 = 0) : CI l yX0_placeOf cX0_placeOf 4 .int 0 D cy L C b0 [.ref a0, .int x1, .int x2] (I, J, R) (fun r v => v.1 = I ∧ v.2.1 = J ∧ v.2.2 = R ∧ Rg r (-1) (29) ∧ (r = (-1) ∨ (0 ≤ r.toInt ∧ r.toInt < (I a0 1).toInt)) ∧ F_X0_placeOf a0 x1 x2 I J R = r) := by
  refine CI.mkI (plainFor_of_name (by decide)) (Nat.le_of_ble_eq_true rfl) ?_
  intro p e s m args below meth c ls Q hF ret hH hl
  obtain ⟨hx, hb, -, hml, hown, hts, -⟩ := hF
  have hl : lv_has ls 4 [(0, .ref a0), (1, .int x1), (2, .int x2)] := hl
  have hH : Hp D cy L C b0 s s.heap I J R s.heap [] := hH
  obtain ⟨TT0, hT⟩ : ∃ TT0, TT0 = F_X0_placeOf a0 x1 x2 I J R := ⟨_, rfl⟩
  have hv := hT
  unfold F_X0_placeOf at hv
  refine lv_iconst (v := 0) hx hb dX0_placeOf_0 (by decide) ?_
  refine lv_istore_n (lv' := [(3, .int 0), (0, .ref a0), (1, .int x1), (2, .int x2)]) hx hb dX0_placeOf_1 rfl hl (by decide) rfl (fun ls hl => ?_)
  have L_2 : ∀ (n_2 : Nat) (H : Heap) (locs : List Loc) (ls : Array Slot) (x3_2 : Int32), (30 - x3_2.toInt).toNat < n_2 → Hp D cy L C b0 s s.heap I J R H locs → TT0 = F_X0_placeOf_2 a0 x1 x2 n_2 I J R x3_2 → Rg x3_2 (0) (30) → lv_has ls 4 [(0, .ref a0), (1, .int x1), (2, .int x2), (3, .int x3_2)] → W p l e (rmD 0) s m args below meth c H locs 0 0 Q (F0 m 2 ls []) := by
    intro n_2
    induction n_2 with
    | zero => intro H locs ls x3_2 h; exact absurd h (Nat.not_lt_zero _)
    | succ n_2 ih_2 =>
      intro H locs ls x3_2 hn_2 hH hv r3_2 hl
      replace hv := hv.trans F_X0_placeOf_2_s
      unfold B_X0_placeOf_2 at hv
      refine lv_iload_n hx hb dX0_placeOf_2 rfl (lv_at hl 3 rfl) ?_
      refine lv_aload_n hx hb dX0_placeOf_3 rfl (lv_at hl 0 rfl) ?_
      refine gf_0_1 hx hb hts hown hH m0 k0 rfl kf_X0_15 dX0_placeOf_4 ?_
      refine lv_topi (fun y1 ey1 => ?_)
      have ry1 : Rg y1 (0) (30) := by rw [ey1]; exact rf_0_1 oI m0 k0
      replace hv := fnS hv ey1
      refine lv_icmp_ge (tgt := 33) hx hb dX0_placeOf_7 (by decide) (fun q2 => ?_) (fun q2 => ?_)
      · replace hv := fnP hv q2
        have l3 := Rg_le q2
        refine lv_iconst (v := (-1)) hx hb dX0_placeOf_33 (by decide) ?_
        exact ret ((-1)) _ _ _ _ _ _ _ dX0_placeOf_34 hH ⟨rfl, rfl, rfl, (Rg_w (Rg_c (x := (-1)) (a := (-1)) (b := (-1)) (by decide)) (by decide)), (by exact Or.inl rfl), (hT.symm.trans hv)⟩
      replace hv := fnN hv q2
      have l4 := Rg_nle q2
      have r5 : Rg x3_2 (0) (29) := Rg_ult r3_2 (Rg_nle q2) ry1 (by decide)
      have r6 : Rg y1 (1) (30) := Rg_llt ry1 (Rg_nle q2) r3_2 (by decide)
      refine lv_aload_n hx hb dX0_placeOf_10 rfl (lv_at hl 0 rfl) ?_
      obtain ⟨b7, mb7, vb7, kb7⟩ := rf_0_0 oR m0 k0
      replace hv := fnR hv vb7
      refine gf_0_0 vb7 hx hb hts hown hH m0 k0 rfl kf_X0_11 dX0_placeOf_11 ?_
      refine lv_iload_n hx hb dX0_placeOf_14 rfl (lv_at hl 3 rfl) ?_
      refine ld_40 hx hb hH mb7 kb7 (Rg_in r5 (by decide)) dX0_placeOf_15 ?_
      refine lv_topi (fun y8 ey8 => ?_)
      replace hv := fnS hv ey8
      refine lv_iload_n hx hb dX0_placeOf_16 rfl (lv_at hl 1 rfl) ?_
      refine lv_bipush (v := 100) hx hb dX0_placeOf_17 (by decide) ?_
      refine lv_imul hx hb dX0_placeOf_19 ?_
      refine lv_topi (fun y9 ey9 => ?_)
      replace hv := fnS hv ey9
      refine lv_iload_n hx hb dX0_placeOf_20 rfl (lv_at hl 2 rfl) ?_
      refine lv_iadd hx hb dX0_placeOf_21 ?_
      refine lv_topi (fun y10 ey10 => ?_)
      replace hv := fnS hv ey10
      refine lv_icmp_ne (tgt := 27) hx hb dX0_placeOf_22 (by decide) (fun q11 => ?_) (fun q11 => ?_)
      rotate_left
      · replace hv := fnP hv q11
        have l14 := congrArg Int32.toInt q11
        refine lv_iload_n hx hb dX0_placeOf_25 rfl (lv_at hl 3 rfl) ?_
        exact ret (x3_2) _ _ _ _ _ _ _ dX0_placeOf_26 hH ⟨rfl, rfl, rfl, (Rg_w r5 (by decide)), (by refine Or.inr ⟨(Rg_w (a' := 0) (b' := 29) r5 (by decide)).1, ?_⟩; rw [← ey1]; omega), (hT.symm.trans hv)⟩
      replace hv := fnN hv q11
      have l12 := Rg_ne q11
      obtain ⟨y13, ey13⟩ : ∃ y : Int32, y = x3_2 + 1 := ⟨_, rfl⟩
      replace hv := fnS hv ey13
      obtain ⟨ty13, ry13⟩ := Rg_addx (a' := (1)) (b' := (30)) (rfl : x3_2.toInt = _) (by decide : Int32.toInt 1 = 1) r5 (Rg_c (x := 1) (a := (1)) (b := (1)) (by decide)) (by decide)
      rw [← ey13] at ty13 ry13
      refine lv_iinc (v := y13) (lv' := [(3, .int y13), (0, .ref a0), (1, .int x1), (2, .int x2)]) hx hb dX0_placeOf_27 hl (k := 3) rfl (by rw [ey13]; rfl) (by decide) rfl (fun ls hl => ?_)
      refine lv_goto (tgt := 2) hx hb dX0_placeOf_30 (by decide) ?_
      exact ih_2 _ _ _ y13 (lp_up hn_2 ty13 (Rg_ltc r5 (by decide))) hH hv (Rg_w ry13 (by decide)) (lv_sub hl [1, 2, 3, 0] rfl)
  exact L_2 ((30 - (0 : Int32).toInt).toNat + 1) _ _ _ 0 (Nat.lt_succ_self _) hH hv (Rg_w (Rg_c (x := 0) (a := (0)) (b := (0)) (by decide)) (by decide)) (lv_sub hl [1, 2, 3, 0] rfl)
