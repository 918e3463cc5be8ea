noncomputable def F_X11_in (x1 : Int64) (x2 : Int64) (x3 : Int64) : Int32 :=
  nm (lg_cmp x1 x2) fun y1 => (if y1 < (0 : Int32) then (0 : Int32) else nm (lg_cmp x1 x3) fun y7 => (if (0 : Int32) < y7 then (0 : Int32) else (1 : Int32)))
set_option maxHeartbeats 4000000 in
set_option maxRecDepth 100000 in
theorem c_X11_in {l : Launch} {D : va_G} {cy : Nat → ClassId} {L : List Nat} {C : Nat → Nat} {b0 : Nat} {I : hI} {J : hJ} {R : hR} {x1 : Int64} {x2 : Int64} {x3 : Int64}  : CI l yX11_in cX11_in 6 .boolean 0 D cy L C b0 [.long x1, .long x2, .long x3] (I, J, R) (fun r v => v.1 = I ∧ v.2.1 = J ∧ v.2.2 = R ∧ Rg r (0) (1) ∧ ((r = 1 ∧ x2.toInt ≤ x1.toInt ∧ x1.toInt ≤ x3.toInt) ∨ (r = 0 ∧ ¬ (x2.toInt ≤ x1.toInt ∧ x1.toInt ≤ x3.toInt))) ∧ F_X11_in x1 x2 x3 = r) := by
  refine CI.mkZ (plainFor_of_name (by decide)) (Nat.le_of_ble_eq_true rfl) ?_
  intro p e s m args below meth c ls Q hF ret hH hl
  obtain ⟨hx, hb, -, hml, hown, hts, -⟩ := hF
  have hl : lv_has ls 6 [(0, .long x1), (2, .long x2), (4, .long x3)] := hl
  have hH : Hp D cy L C b0 s s.heap I J R s.heap [] := hH
  obtain ⟨TT0, hT⟩ : ∃ TT0, TT0 = F_X11_in x1 x2 x3 := ⟨_, rfl⟩
  have hv := hT
  unfold F_X11_in at hv
  refine lv_lload_n hx hb dX11_in_0 rfl (lv_at hl 0 rfl) ?_
  refine lv_lload_n hx hb dX11_in_1 rfl (lv_at hl 1 rfl) ?_
  refine W.lcmp hx hb dX11_in_2 ?_
  refine lv_topi (fun y1 ey1 => ?_)
  replace hv := fnS hv ey1
  refine lv_if_lt (tgt := 17) hx hb dX11_in_3 (by decide) (fun q2 => ?_) (fun q2 => ?_)
  · replace hv := fnP hv q2
    have l3 := lc_lt ey1 q2
    have r4 : Rg y1 (-2147483648) (-1) := Rg_ult (Rg_any y1) (Rg_lt q2) (Rg_c (x := 0) (a := (0)) (b := (0)) (by decide)) (by decide)
    refine lv_iconst (v := 0) hx hb dX11_in_17 (by decide) ?_
    exact ret (0) _ _ _ _ _ _ _ dX11_in_18 hH (Rg_01 (Rg_w (Rg_c (x := 0) (a := (0)) (b := (0)) (by decide)) (by decide))) ⟨rfl, rfl, rfl, (Rg_w (Rg_c (x := 0) (a := (0)) (b := (0)) (by decide)) (by decide)), (by first | exact Or.inl ⟨rfl, by omega, by omega⟩ | exact Or.inr ⟨rfl, by omega⟩), (hT.symm.trans hv)⟩
  replace hv := fnN hv q2
  have l5 := lc_nlt ey1 q2
  have r6 : Rg y1 (0) (2147483647) := Rg_lle (Rg_any y1) (Rg_nlt q2) (Rg_c (x := 0) (a := (0)) (b := (0)) (by decide)) (by decide)
  refine lv_lload_n hx hb dX11_in_6 rfl (lv_at hl 0 rfl) ?_
  refine lv_lload hx hb dX11_in_7 (lv_at hl 2 rfl) ?_
  refine W.lcmp hx hb dX11_in_9 ?_
  refine lv_topi (fun y7 ey7 => ?_)
  replace hv := fnS hv ey7
  refine lv_if_gt (tgt := 17) hx hb dX11_in_10 (by decide) (fun q8 => ?_) (fun q8 => ?_)
  · replace hv := fnP hv q8
    have l9 := lc_gt ey7 q8
    have r10 : Rg y7 (1) (2147483647) := Rg_llt (Rg_any y7) (Rg_lt q8) (Rg_c (x := 0) (a := (0)) (b := (0)) (by decide)) (by decide)
    refine lv_iconst (v := 0) hx hb dX11_in_17 (by decide) ?_
    exact ret (0) _ _ _ _ _ _ _ dX11_in_18 hH (Rg_01 (Rg_w (Rg_c (x := 0) (a := (0)) (b := (0)) (by decide)) (by decide))) ⟨rfl, rfl, rfl, (Rg_w (Rg_c (x := 0) (a := (0)) (b := (0)) (by decide)) (by decide)), (by first | exact Or.inl ⟨rfl, by omega, by omega⟩ | exact Or.inr ⟨rfl, by omega⟩), (hT.symm.trans hv)⟩
  replace hv := fnN hv q8
  have l11 := lc_ngt ey7 q8
  have r12 : Rg y7 (-2147483648) (0) := Rg_ule (Rg_any y7) (Rg_nlt q8) (Rg_c (x := 0) (a := (0)) (b := (0)) (by decide)) (by decide)
  refine lv_iconst (v := 1) hx hb dX11_in_13 (by decide) ?_
  refine lv_goto (tgt := 18) hx hb dX11_in_14 (by decide) ?_
  exact ret (1) _ _ _ _ _ _ _ dX11_in_18 hH (Rg_01 (Rg_w (Rg_c (x := 1) (a := (1)) (b := (1)) (by decide)) (by decide))) ⟨rfl, rfl, rfl, (Rg_w (Rg_c (x := 1) (a := (1)) (b := (1)) (by decide)) (by decide)), (by first | exact Or.inl ⟨rfl, by omega, by omega⟩ | exact Or.inr ⟨rfl, by omega⟩), (hT.symm.trans hv)⟩
noncomputable def F_X10_isWithin (x1 : Int32) (x2 : Int32) (x3 : Int32) : Int32 :=
  (if x1 < x2 then (0 : Int32) else (if x3 < x1 then (0 : Int32) else (1 : Int32)))
set_option maxHeartbeats 4000000 in
set_option maxRecDepth 100000 in
theorem c_X10_isWithin {l : Launch} {D : va_G} {cy : Nat → ClassId} {L : List Nat} {C : Nat → Nat} {b0 : Nat} {I : hI} {J : hJ} {R : hR} {x1 : Int32} {x2 : Int32} {x3 : Int32}  : CI l yX10_isWithin cX10_isWithin 3 .boolean 0 D cy L C b0 [.int x1, .int x2, .int x3] (I, J, R) (fun r v => v.1 = I ∧ v.2.1 = J ∧ v.2.2 = R ∧ Rg r (0) (1) ∧ ((r = 1 ∧ x2.toInt ≤ x1.toInt ∧ x1.toInt ≤ x3.toInt) ∨ (r = 0 ∧ ¬ (x2.toInt ≤ x1.toInt ∧ x1.toInt ≤ x3.toInt))) ∧ F_X10_isWithin x1 x2 x3 = r) := by
  refine CI.mkZ (plainFor_of_name (by decide)) (Nat.le_of_ble_eq_true rfl) ?_
  intro p e s m args below meth c ls Q hF ret hH hl
  obtain ⟨hx, hb, -, hml, hown, hts, -⟩ := hF
  have hl : lv_has ls 3 [(0, .int x1), (1, .int x2), (2, .int x3)] := hl
  have hH : Hp D cy L C b0 s s.heap I J R s.heap [] := hH
  obtain ⟨TT0, hT⟩ : ∃ TT0, TT0 = F_X10_isWithin x1 x2 x3 := ⟨_, rfl⟩
  have hv := hT
  unfold F_X10_isWithin at hv
  refine lv_iload_n hx hb dX10_isWithin_0 rfl (lv_at hl 0 rfl) ?_
  refine lv_iload_n hx hb dX10_isWithin_1 rfl (lv_at hl 1 rfl) ?_
  refine lv_icmp_lt (tgt := 14) hx hb dX10_isWithin_2 (by decide) (fun q1 => ?_) (fun q1 => ?_)
  · replace hv := fnP hv q1
    have l2 := Rg_lt q1
    have r3 : Rg x1 (-2147483648) (2147483646) := Rg_ult (Rg_any x1) (Rg_lt q1) (Rg_any x2) (by decide)
    have r4 : Rg x2 (-2147483647) (2147483647) := Rg_llt (Rg_any x2) (Rg_lt q1) (Rg_any x1) (by decide)
    refine lv_iconst (v := 0) hx hb dX10_isWithin_14 (by decide) ?_
    exact ret (0) _ _ _ _ _ _ _ dX10_isWithin_15 hH (Rg_01 (Rg_w (Rg_c (x := 0) (a := (0)) (b := (0)) (by decide)) (by decide))) ⟨rfl, rfl, rfl, (Rg_w (Rg_c (x := 0) (a := (0)) (b := (0)) (by decide)) (by decide)), (by first | exact Or.inl ⟨rfl, by omega, by omega⟩ | exact Or.inr ⟨rfl, by omega⟩), (hT.symm.trans hv)⟩
  replace hv := fnN hv q1
  have l5 := Rg_nlt q1
  refine lv_iload_n hx hb dX10_isWithin_5 rfl (lv_at hl 0 rfl) ?_
  refine lv_iload_n hx hb dX10_isWithin_6 rfl (lv_at hl 2 rfl) ?_
  refine lv_icmp_gt (tgt := 14) hx hb dX10_isWithin_7 (by decide) (fun q6 => ?_) (fun q6 => ?_)
  rotate_left
  · replace hv := fnN hv q6
    have l10 := Rg_nlt q6
    refine lv_iconst (v := 1) hx hb dX10_isWithin_10 (by decide) ?_
    refine lv_goto (tgt := 15) hx hb dX10_isWithin_11 (by decide) ?_
    exact ret (1) _ _ _ _ _ _ _ dX10_isWithin_15 hH (Rg_01 (Rg_w (Rg_c (x := 1) (a := (1)) (b := (1)) (by decide)) (by decide))) ⟨rfl, rfl, rfl, (Rg_w (Rg_c (x := 1) (a := (1)) (b := (1)) (by decide)) (by decide)), (by first | exact Or.inl ⟨rfl, by omega, by omega⟩ | exact Or.inr ⟨rfl, by omega⟩), (hT.symm.trans hv)⟩
  replace hv := fnP hv q6
  have l7 := Rg_lt q6
  have r8 : Rg x3 (-2147483648) (2147483646) := Rg_ult (Rg_any x3) (Rg_lt q6) (Rg_any x1) (by decide)
  have r9 : Rg x1 (-2147483647) (2147483647) := Rg_llt (Rg_any x1) (Rg_lt q6) (Rg_any x3) (by decide)
  refine lv_iconst (v := 0) hx hb dX10_isWithin_14 (by decide) ?_
  exact ret (0) _ _ _ _ _ _ _ dX10_isWithin_15 hH (Rg_01 (Rg_w (Rg_c (x := 0) (a := (0)) (b := (0)) (by decide)) (by decide))) ⟨rfl, rfl, rfl, (Rg_w (Rg_c (x := 0) (a := (0)) (b := (0)) (by decide)) (by decide)), (by first | exact Or.inl ⟨rfl, by omega, by omega⟩ | exact Or.inr ⟨rfl, by omega⟩), (hT.symm.trans hv)⟩
noncomputable def F_X11_isOf (x1 : Int32) (x2 : Int64) : Int32 :=
  (if Int32.toInt x1 = 0 then nm (F_X11_in x2 (-128 : Int64) (127 : Int64)) fun y3 => (if y3 = (1 : Int32) then (1 : Int32) else (0 : Int32)) else (if Int32.toInt x1 = 1 then nm (F_X11_in x2 (-32768 : Int64) (32767 : Int64)) fun y6 => (if y6 = (1 : Int32) then (1 : Int32) else (0 : Int32)) else (if Int32.toInt x1 = 2 then nm (F_X11_in x2 (-2147483648 : Int64) (2147483647 : Int64)) fun y9 => (if y9 = (1 : Int32) then (1 : Int32) else (0 : Int32)) else (if Int32.toInt x1 = 3 then (1 : Int32) else (if Int32.toInt x1 = 4 then nm (F_X11_in x2 (0 : Int64) (1 : Int64)) fun y13 => (if y13 = (1 : Int32) then (1 : Int32) else (0 : Int32)) else (if Int32.toInt x1 = 5 then (1 : Int32) else (if Int32.toInt x1 = 6 then nm (F_X11_in x2 (0 : Int64) (127 : Int64)) fun y17 => (if y17 = (1 : Int32) then (1 : Int32) else (0 : Int32)) else default)))))))
set_option maxHeartbeats 4000000 in
set_option maxRecDepth 100000 in
theorem c_X11_isOf {l : Launch} {D : va_G} {cy : Nat → ClassId} {L : List Nat} {C : Nat → Nat} {b0 : Nat} {I : hI} {J : hJ} {R : hR} {x1 : Int32} {x2 : Int64} (h1 : Rg x1 (0) (6)) : CI l yX11_isOf cX11_isOf 3 .boolean 1 D cy L C b0 [.int x1, .long x2] (I, J, R) (fun r v => v.1 = I ∧ v.2.1 = J ∧ v.2.2 = R ∧ Rg r (0) (1) ∧ ((r = 1 ∧ isOfP x1.toInt x2.toInt) ∨ (r = 0 ∧ ¬ isOfP x1.toInt x2.toInt)) ∧ F_X11_isOf x1 x2 = r) := by
  refine CI.mkZ (plainFor_of_name (by decide)) (Nat.le_of_ble_eq_true rfl) ?_
  intro p e s m args below meth c ls Q hF ret hH hl
  obtain ⟨hx, hb, -, hml, hown, hts, -⟩ := hF
  have hl : lv_has ls 3 [(0, .int x1), (1, .long x2)] := hl
  have hH : Hp D cy L C b0 s s.heap I J R s.heap [] := hH
  obtain ⟨TT0, hT⟩ : ∃ TT0, TT0 = F_X11_isOf x1 x2 := ⟨_, rfl⟩
  have hv := hT
  unfold F_X11_isOf at hv
  refine lv_iload_n hx hb dX11_isOf_0 rfl (lv_at hl 0 rfl) ?_
  rcases (show x1.toInt = 0 ∨ x1.toInt = 1 ∨ x1.toInt = 2 ∨ x1.toInt = 3 ∨ x1.toInt = 4 ∨ x1.toInt = 5 ∨ x1.toInt = 6 by have z11 := h1.1; have z12 := h1.2; omega) with z1 | z1 | z1 | z1 | z1 | z1 | z1
  · have r2 : Rg x1 (0) (0) := ⟨by rw [z1]; decide, by rw [z1]; decide⟩
    refine lv_tableIn (tgt := 44) hx hb dX11_isOf_1 (by rw [z1]; decide) (by rw [z1]; decide) (by rw [z1]; rfl) (by decide) ?_
    replace hv := fnP hv z1
    refine lv_lload_n hx hb dX11_isOf_44 rfl (lv_at hl 1 rfl) ?_
    refine lv_ldc2 (v := (-128)) hx hb hown (hts _ kkl_X11_134) dX11_isOf_45 ?_
    refine lv_ldc2 (v := 127) hx hb hown (hts _ kkl_X11_136) dX11_isOf_48 ?_
    refine ca_X11_138 hx hb hml hown hts hH (c_X11_in ) hl.1 (by decide) (Nat.le_of_ble_eq_true rfl) ⟨Nat.zero_le _, Nat.zero_le _⟩ dX11_isOf_51 (fun y3 I3 J3 R3 H locs hp hH => ?_)
    obtain ⟨eI3, eJ3, eR3, ry3, hp3, hf3⟩ := hp
    obtain rfl : I = I3 := eI3.symm
    obtain rfl : J = J3 := eJ3.symm
    obtain rfl : R = R3 := eR3.symm
    replace hv := fnS hv hf3.symm
    rcases hp3 with ⟨rfl, hq3⟩ | ⟨rfl, hq3⟩
    · replace hv := fnP hv rfl
      have l4 := hq3
      simp only [Int32.toInt_toInt64, show Int64.toInt (-128) = -128 by decide, show Int64.toInt (127) = 127 by decide, show Int32.toInt (-128) = -128 by decide, show Int32.toInt (127) = 127 by decide] at l4
      exact ret (1) _ _ _ _ _ _ _ dX11_isOf_54 hH (Rg_01 (Rg_w (Rg_c (x := 1) (a := (1)) (b := (1)) (by decide)) (by decide))) ⟨rfl, rfl, rfl, (Rg_w (Rg_c (x := 1) (a := (1)) (b := (1)) (by decide)) (by decide)), (by obtain ⟨ga0, gb0⟩ := r2; exact Or.inl ⟨rfl, by unfold isOfP; omega⟩), (hT.symm.trans hv)⟩
    replace hv := fnN hv (by decide)
    have l4 := hq3
    simp only [Int32.toInt_toInt64, show Int64.toInt (-128) = -128 by decide, show Int64.toInt (127) = 127 by decide, show Int32.toInt (-128) = -128 by decide, show Int32.toInt (127) = 127 by decide] at l4
    exact ret (0) _ _ _ _ _ _ _ dX11_isOf_54 hH (Rg_01 (Rg_w (Rg_c (x := 0) (a := (0)) (b := (0)) (by decide)) (by decide))) ⟨rfl, rfl, rfl, (Rg_w (Rg_c (x := 0) (a := (0)) (b := (0)) (by decide)) (by decide)), (by obtain ⟨ga0, gb0⟩ := r2; exact Or.inr ⟨rfl, by unfold isOfP; omega⟩), (hT.symm.trans hv)⟩
  · have r5 : Rg x1 (1) (1) := ⟨by rw [z1]; decide, by rw [z1]; decide⟩
    refine lv_tableIn (tgt := 55) hx hb dX11_isOf_1 (by rw [z1]; decide) (by rw [z1]; decide) (by rw [z1]; rfl) (by decide) ?_
    replace hv := fnN hv (by omega)
    replace hv := fnP hv z1
    refine lv_lload_n hx hb dX11_isOf_55 rfl (lv_at hl 1 rfl) ?_
    refine lv_ldc2 (v := (-32768)) hx hb hown (hts _ kkl_X11_142) dX11_isOf_56 ?_
    refine lv_ldc2 (v := 32767) hx hb hown (hts _ kkl_X11_144) dX11_isOf_59 ?_
    refine ca_X11_138 hx hb hml hown hts hH (c_X11_in ) hl.1 (by decide) (Nat.le_of_ble_eq_true rfl) ⟨Nat.zero_le _, Nat.zero_le _⟩ dX11_isOf_62 (fun y6 I6 J6 R6 H locs hp hH => ?_)
    obtain ⟨eI6, eJ6, eR6, ry6, hp6, hf6⟩ := hp
    obtain rfl : I = I6 := eI6.symm
    obtain rfl : J = J6 := eJ6.symm
    obtain rfl : R = R6 := eR6.symm
    replace hv := fnS hv hf6.symm
    rcases hp6 with ⟨rfl, hq6⟩ | ⟨rfl, hq6⟩
    · replace hv := fnP hv rfl
      have l7 := hq6
      simp only [Int32.toInt_toInt64, show Int64.toInt (-32768) = -32768 by decide, show Int64.toInt (32767) = 32767 by decide, show Int32.toInt (-32768) = -32768 by decide, show Int32.toInt (32767) = 32767 by decide] at l7
      exact ret (1) _ _ _ _ _ _ _ dX11_isOf_65 hH (Rg_01 (Rg_w (Rg_c (x := 1) (a := (1)) (b := (1)) (by decide)) (by decide))) ⟨rfl, rfl, rfl, (Rg_w (Rg_c (x := 1) (a := (1)) (b := (1)) (by decide)) (by decide)), (by obtain ⟨ga0, gb0⟩ := r5; exact Or.inl ⟨rfl, by unfold isOfP; omega⟩), (hT.symm.trans hv)⟩
    replace hv := fnN hv (by decide)
    have l7 := hq6
    simp only [Int32.toInt_toInt64, show Int64.toInt (-32768) = -32768 by decide, show Int64.toInt (32767) = 32767 by decide, show Int32.toInt (-32768) = -32768 by decide, show Int32.toInt (32767) = 32767 by decide] at l7
    exact ret (0) _ _ _ _ _ _ _ dX11_isOf_65 hH (Rg_01 (Rg_w (Rg_c (x := 0) (a := (0)) (b := (0)) (by decide)) (by decide))) ⟨rfl, rfl, rfl, (Rg_w (Rg_c (x := 0) (a := (0)) (b := (0)) (by decide)) (by decide)), (by obtain ⟨ga0, gb0⟩ := r5; exact Or.inr ⟨rfl, by unfold isOfP; omega⟩), (hT.symm.trans hv)⟩
  · have r8 : Rg x1 (2) (2) := ⟨by rw [z1]; decide, by rw [z1]; decide⟩
    refine lv_tableIn (tgt := 66) hx hb dX11_isOf_1 (by rw [z1]; decide) (by rw [z1]; decide) (by rw [z1]; rfl) (by decide) ?_
    replace hv := fnN hv (by omega)
    replace hv := fnN hv (by omega)
    replace hv := fnP hv z1
    refine lv_lload_n hx hb dX11_isOf_66 rfl (lv_at hl 1 rfl) ?_
    refine lv_ldc2 (v := (-2147483648)) hx hb hown (hts _ kkl_X11_146) dX11_isOf_67 ?_
    refine lv_ldc2 (v := 2147483647) hx hb hown (hts _ kkl_X11_148) dX11_isOf_70 ?_
    refine ca_X11_138 hx hb hml hown hts hH (c_X11_in ) hl.1 (by decide) (Nat.le_of_ble_eq_true rfl) ⟨Nat.zero_le _, Nat.zero_le _⟩ dX11_isOf_73 (fun y9 I9 J9 R9 H locs hp hH => ?_)
    obtain ⟨eI9, eJ9, eR9, ry9, hp9, hf9⟩ := hp
    obtain rfl : I = I9 := eI9.symm
    obtain rfl : J = J9 := eJ9.symm
    obtain rfl : R = R9 := eR9.symm
    replace hv := fnS hv hf9.symm
    rcases hp9 with ⟨rfl, hq9⟩ | ⟨rfl, hq9⟩
    · replace hv := fnP hv rfl
      have l10 := hq9
      simp only [Int32.toInt_toInt64, show Int64.toInt (-2147483648) = -2147483648 by decide, show Int64.toInt (2147483647) = 2147483647 by decide, show Int32.toInt (-2147483648) = -2147483648 by decide, show Int32.toInt (2147483647) = 2147483647 by decide] at l10
      exact ret (1) _ _ _ _ _ _ _ dX11_isOf_76 hH (Rg_01 (Rg_w (Rg_c (x := 1) (a := (1)) (b := (1)) (by decide)) (by decide))) ⟨rfl, rfl, rfl, (Rg_w (Rg_c (x := 1) (a := (1)) (b := (1)) (by decide)) (by decide)), (by obtain ⟨ga0, gb0⟩ := r8; exact Or.inl ⟨rfl, by unfold isOfP; omega⟩), (hT.symm.trans hv)⟩
    replace hv := fnN hv (by decide)
    have l10 := hq9
    simp only [Int32.toInt_toInt64, show Int64.toInt (-2147483648) = -2147483648 by decide, show Int64.toInt (2147483647) = 2147483647 by decide, show Int32.toInt (-2147483648) = -2147483648 by decide, show Int32.toInt (2147483647) = 2147483647 by decide] at l10
    exact ret (0) _ _ _ _ _ _ _ dX11_isOf_76 hH (Rg_01 (Rg_w (Rg_c (x := 0) (a := (0)) (b := (0)) (by decide)) (by decide))) ⟨rfl, rfl, rfl, (Rg_w (Rg_c (x := 0) (a := (0)) (b := (0)) (by decide)) (by decide)), (by obtain ⟨ga0, gb0⟩ := r8; exact Or.inr ⟨rfl, by unfold isOfP; omega⟩), (hT.symm.trans hv)⟩
  · have r11 : Rg x1 (3) (3) := ⟨by rw [z1]; decide, by rw [z1]; decide⟩
    refine lv_tableIn (tgt := 93) hx hb dX11_isOf_1 (by rw [z1]; decide) (by rw [z1]; decide) (by rw [z1]; rfl) (by decide) ?_
    replace hv := fnN hv (by omega)
    replace hv := fnN hv (by omega)
    replace hv := fnN hv (by omega)
    replace hv := fnP hv z1
    refine lv_iconst (v := 1) hx hb dX11_isOf_93 (by decide) ?_
    exact ret (1) _ _ _ _ _ _ _ dX11_isOf_94 hH (Rg_01 (Rg_w (Rg_c (x := 1) (a := (1)) (b := (1)) (by decide)) (by decide))) ⟨rfl, rfl, rfl, (Rg_w (Rg_c (x := 1) (a := (1)) (b := (1)) (by decide)) (by decide)), (by obtain ⟨ga0, gb0⟩ := r11; exact Or.inl ⟨rfl, by unfold isOfP; omega⟩), (hT.symm.trans hv)⟩
  · have r12 : Rg x1 (4) (4) := ⟨by rw [z1]; decide, by rw [z1]; decide⟩
    refine lv_tableIn (tgt := 77) hx hb dX11_isOf_1 (by rw [z1]; decide) (by rw [z1]; decide) (by rw [z1]; rfl) (by decide) ?_
    replace hv := fnN hv (by omega)
    replace hv := fnN hv (by omega)
    replace hv := fnN hv (by omega)
    replace hv := fnN hv (by omega)
    replace hv := fnP hv z1
    refine lv_lload_n hx hb dX11_isOf_77 rfl (lv_at hl 1 rfl) ?_
    refine lv_lconst (v := 0) hx hb dX11_isOf_78 (by decide) ?_
    refine lv_lconst (v := 1) hx hb dX11_isOf_79 (by decide) ?_
    refine ca_X11_138 hx hb hml hown hts hH (c_X11_in ) hl.1 (by decide) (Nat.le_of_ble_eq_true rfl) ⟨Nat.zero_le _, Nat.zero_le _⟩ dX11_isOf_80 (fun y13 I13 J13 R13 H locs hp hH => ?_)
    obtain ⟨eI13, eJ13, eR13, ry13, hp13, hf13⟩ := hp
    obtain rfl : I = I13 := eI13.symm
    obtain rfl : J = J13 := eJ13.symm
    obtain rfl : R = R13 := eR13.symm
    replace hv := fnS hv hf13.symm
    rcases hp13 with ⟨rfl, hq13⟩ | ⟨rfl, hq13⟩
    · replace hv := fnP hv rfl
      have l14 := hq13
      simp only [Int32.toInt_toInt64, show Int64.toInt (0) = 0 by decide, show Int64.toInt (1) = 1 by decide, show Int32.toInt (0) = 0 by decide, show Int32.toInt (1) = 1 by decide] at l14
      exact ret (1) _ _ _ _ _ _ _ dX11_isOf_83 hH (Rg_01 (Rg_w (Rg_c (x := 1) (a := (1)) (b := (1)) (by decide)) (by decide))) ⟨rfl, rfl, rfl, (Rg_w (Rg_c (x := 1) (a := (1)) (b := (1)) (by decide)) (by decide)), (by obtain ⟨ga0, gb0⟩ := r12; exact Or.inl ⟨rfl, by unfold isOfP; omega⟩), (hT.symm.trans hv)⟩
    replace hv := fnN hv (by decide)
    have l14 := hq13
    simp only [Int32.toInt_toInt64, show Int64.toInt (0) = 0 by decide, show Int64.toInt (1) = 1 by decide, show Int32.toInt (0) = 0 by decide, show Int32.toInt (1) = 1 by decide] at l14
    exact ret (0) _ _ _ _ _ _ _ dX11_isOf_83 hH (Rg_01 (Rg_w (Rg_c (x := 0) (a := (0)) (b := (0)) (by decide)) (by decide))) ⟨rfl, rfl, rfl, (Rg_w (Rg_c (x := 0) (a := (0)) (b := (0)) (by decide)) (by decide)), (by obtain ⟨ga0, gb0⟩ := r12; exact Or.inr ⟨rfl, by unfold isOfP; omega⟩), (hT.symm.trans hv)⟩
  · have r15 : Rg x1 (5) (5) := ⟨by rw [z1]; decide, by rw [z1]; decide⟩
    refine lv_tableIn (tgt := 93) hx hb dX11_isOf_1 (by rw [z1]; decide) (by rw [z1]; decide) (by rw [z1]; rfl) (by decide) ?_
    replace hv := fnN hv (by omega)
    replace hv := fnN hv (by omega)
    replace hv := fnN hv (by omega)
    replace hv := fnN hv (by omega)
    replace hv := fnN hv (by omega)
    replace hv := fnP hv z1
    refine lv_iconst (v := 1) hx hb dX11_isOf_93 (by decide) ?_
    exact ret (1) _ _ _ _ _ _ _ dX11_isOf_94 hH (Rg_01 (Rg_w (Rg_c (x := 1) (a := (1)) (b := (1)) (by decide)) (by decide))) ⟨rfl, rfl, rfl, (Rg_w (Rg_c (x := 1) (a := (1)) (b := (1)) (by decide)) (by decide)), (by obtain ⟨ga0, gb0⟩ := r15; exact Or.inl ⟨rfl, by unfold isOfP; omega⟩), (hT.symm.trans hv)⟩
  · have r16 : Rg x1 (6) (6) := ⟨by rw [z1]; decide, by rw [z1]; decide⟩
    refine lv_tableIn (tgt := 84) hx hb dX11_isOf_1 (by rw [z1]; decide) (by rw [z1]; decide) (by rw [z1]; rfl) (by decide) ?_
    replace hv := fnN hv (by omega)
    replace hv := fnN hv (by omega)
    replace hv := fnN hv (by omega)
    replace hv := fnN hv (by omega)
    replace hv := fnN hv (by omega)
    replace hv := fnN hv (by omega)
    replace hv := fnP hv z1
    refine lv_lload_n hx hb dX11_isOf_84 rfl (lv_at hl 1 rfl) ?_
    refine lv_lconst (v := 0) hx hb dX11_isOf_85 (by decide) ?_
    refine lv_ldc2 (v := 127) hx hb hown (hts _ kkl_X11_136) dX11_isOf_86 ?_
    refine ca_X11_138 hx hb hml hown hts hH (c_X11_in ) hl.1 (by decide) (Nat.le_of_ble_eq_true rfl) ⟨Nat.zero_le _, Nat.zero_le _⟩ dX11_isOf_89 (fun y17 I17 J17 R17 H locs hp hH => ?_)
    obtain ⟨eI17, eJ17, eR17, ry17, hp17, hf17⟩ := hp
    obtain rfl : I = I17 := eI17.symm
    obtain rfl : J = J17 := eJ17.symm
    obtain rfl : R = R17 := eR17.symm
    replace hv := fnS hv hf17.symm
    rcases hp17 with ⟨rfl, hq17⟩ | ⟨rfl, hq17⟩
    · replace hv := fnP hv rfl
      have l18 := hq17
      simp only [Int32.toInt_toInt64, show Int64.toInt (0) = 0 by decide, show Int64.toInt (127) = 127 by decide, show Int32.toInt (0) = 0 by decide, show Int32.toInt (127) = 127 by decide] at l18
      exact ret (1) _ _ _ _ _ _ _ dX11_isOf_92 hH (Rg_01 (Rg_w (Rg_c (x := 1) (a := (1)) (b := (1)) (by decide)) (by decide))) ⟨rfl, rfl, rfl, (Rg_w (Rg_c (x := 1) (a := (1)) (b := (1)) (by decide)) (by decide)), (by obtain ⟨ga0, gb0⟩ := r16; exact Or.inl ⟨rfl, by unfold isOfP; omega⟩), (hT.symm.trans hv)⟩
    replace hv := fnN hv (by decide)
    have l18 := hq17
    simp only [Int32.toInt_toInt64, show Int64.toInt (0) = 0 by decide, show Int64.toInt (127) = 127 by decide, show Int32.toInt (0) = 0 by decide, show Int32.toInt (127) = 127 by decide] at l18
    exact ret (0) _ _ _ _ _ _ _ dX11_isOf_92 hH (Rg_01 (Rg_w (Rg_c (x := 0) (a := (0)) (b := (0)) (by decide)) (by decide))) ⟨rfl, rfl, rfl, (Rg_w (Rg_c (x := 0) (a := (0)) (b := (0)) (by decide)) (by decide)), (by obtain ⟨ga0, gb0⟩ := r16; exact Or.inr ⟨rfl, by unfold isOfP; omega⟩), (hT.symm.trans hv)⟩
noncomputable def F_X11_base (a0 : Nat) (x1 : Int32) (x2 : Int32) (x3 : Int32) (I : hI) (J : hJ) (R : hR) : hU :=
  nm (I a0 1) fun z1 => nm ((R a0 2).getD 0) fun b2 => nm (u2 I b2 (Int32.toNatClampNeg z1) x1) fun I4 => nm ((R a0 3).getD 0) fun b5 => nm (u2 I4 b5 (Int32.toNatClampNeg z1) x2) fun I9 => nm ((R a0 4).getD 0) fun b10 => nm (u2 I9 b10 (Int32.toNatClampNeg z1) x3) fun I14 => nm ((R a0 5).getD 0) fun b15 => nm (u2 I14 b15 (Int32.toNatClampNeg z1) (1 : Int32)) fun I19 => nm ((R a0 6).getD 0) fun b20 => nm (u2 I19 b20 (Int32.toNatClampNeg z1) (0 : Int32)) fun I24 => nm ((R a0 7).getD 0) fun b25 => nm (u2 I24 b25 (Int32.toNatClampNeg z1) (1 : Int32)) fun I29 => nm (z1 + (1 : Int32)) fun y33 => nm (u2 I29 a0 1 y33) fun I34 => (I34, J, R)
def ms_X11_base : List Nat := [705, 4096, 4160, 4224, 4288, 4352, 4416]
set_option maxHeartbeats 4000000 in
set_option maxRecDepth 100000 in
theorem c_X11_base {l : Launch} {D : va_G} {cy : Nat → ClassId} {L : List Nat} {C : Nat → Nat} {b0 : Nat} {I : hI} {J : hJ} {R : hR} {a0 : Nat} {x1 : Int32} {x2 : Int32} {x3 : Int32} (oI : OkI L C I) (oR : OkR L C R) (m0 : a0 ∈ L) (k0 : C a0 = 11) (h1 : Rg x1 (0) (6)) (h2 : Rg x2 (0) (6)) (h3 : Rg x3 (0) (50)) (hm1 : Rg (I a0 1) (0) (31)) (hU : Uq L C) : CV l yX11_base cX11_base 4 0 D cy L C b0 [.ref a0, .int x1, .int x2, .int x3] (I, J, R) (fun v => Ps L C ms_X11_base (I, J, R) v ∧ v.2.1 = J ∧ v.2.2 = R ∧ Rg (v.1 a0 1) (1) (32) ∧ (((v.1 a0 1).toInt = (I a0 1).toInt + 1 ∧ v.1 a0 1 = I a0 1 + 1) ∧ (∀ b ∈ L, C b = 64 → v.1 b = up (I b) (I a0 1).toNatClampNeg x1) ∧ (∀ b ∈ L, C b = 65 → v.1 b = up (I b) (I a0 1).toNatClampNeg x2) ∧ (∀ b ∈ L, C b = 66 → v.1 b = up (I b) (I a0 1).toNatClampNeg x3) ∧ (∀ b ∈ L, C b = 67 → v.1 b = up (I b) (I a0 1).toNatClampNeg 1) ∧ (∀ b ∈ L, C b = 68 → v.1 b = up (I b) (I a0 1).toNatClampNeg 0) ∧ (∀ b ∈ L, C b = 69 → v.1 b = up (I b) (I a0 1).toNatClampNeg 1)) ∧ F_X11_base a0 x1 x2 x3 I J R = v) := by
  refine CV.mk (plainFor_of_name (by decide)) (Nat.le_of_ble_eq_true rfl) ?_
  intro p e s m args below meth c ls Q hF ret hH hl
  obtain ⟨hx, hb, -, hml, hown, hts, -⟩ := hF
  have hl : lv_has ls 4 [(0, .ref a0), (1, .int x1), (2, .int x2), (3, .int x3)] := hl
  have hH : Hp D cy L C b0 s s.heap I J R s.heap [] := hH
  have sm : Sm C ms_X11_base (I, J, R) (I, J, R) := Sm.rf
  obtain ⟨TT0, hT⟩ : ∃ TT0, TT0 = F_X11_base a0 x1 x2 x3 I J R := ⟨_, rfl⟩
  have hv := hT
  unfold F_X11_base at hv
  obtain ⟨z1, ez1⟩ : ∃ y : Int32, y = I a0 1 := ⟨_, rfl⟩
  have rz1 : Rg z1 (0) (31) := by rw [ez1]; exact hm1
  replace hv := fnS hv ez1
  refine lv_aload_n hx hb dX11_base_0 rfl (lv_at hl 0 rfl) ?_
  obtain ⟨b2, mb2, vb2, kb2⟩ := rf_11_2 oR m0 k0
  replace hv := fnR hv vb2
  refine gf_11_2 vb2 hx hb hts hown hH m0 k0 rfl kf_X11_7 dX11_base_1 ?_
  refine lv_aload_n hx hb dX11_base_4 rfl (lv_at hl 0 rfl) ?_
  refine gf_11_1 hx hb hts hown hH m0 k0 rfl kf_X11_127 dX11_base_5 ?_
  refine lv_topi (fun y3 ey3 => ?_)
  obtain rfl : z1 = y3 := ez1.trans ey3.symm
  refine lv_iload_n hx hb dX11_base_8 rfl (lv_at hl 1 rfl) ?_
  refine st_64 hx hb hH mb2 kb2 (Rg_in rz1 (by decide)) dX11_base_9 (fun I4 H locs eI4 hH => ?_)
  replace hv := fnS hv eI4
  have oI : OkI L C I4 := by rw [eI4]; exact wr_64 oI kb2 h1
  have sm : Sm C ms_X11_base (I, J, R) (I4, J, R) := by rw [eI4]; exact sm.stI kb2 (mC_arr (by decide) rfl)
  refine lv_aload_n hx hb dX11_base_10 rfl (lv_at hl 0 rfl) ?_
  obtain ⟨b5, mb5, vb5, kb5⟩ := rf_11_3 oR m0 k0
  replace hv := fnR hv vb5
  refine gf_11_3 vb5 hx hb hts hown hH m0 k0 rfl kf_X11_13 dX11_base_11 ?_
  refine lv_aload_n hx hb dX11_base_14 rfl (lv_at hl 0 rfl) ?_
  have f7 : I4 a0 (1) = I a0 (1) := (by rw [eI4, u2_ne (ne_role k0 kb2 (by decide))])
  have f6 : z1 = I4 a0 (1) := ez1.trans f7.symm
  refine gf_11_1 hx hb hts hown hH m0 k0 rfl kf_X11_127 dX11_base_15 ?_
  refine lv_topi (fun y8 ey8 => ?_)
  obtain rfl : z1 = y8 := f6.trans ey8.symm
  refine lv_iload_n hx hb dX11_base_18 rfl (lv_at hl 2 rfl) ?_
  refine st_65 hx hb hH mb5 kb5 (Rg_in rz1 (by decide)) dX11_base_19 (fun I9 H locs eI9 hH => ?_)
  replace hv := fnS hv eI9
  have oI : OkI L C I9 := by rw [eI9]; exact wr_65 oI kb5 h2
  have sm : Sm C ms_X11_base (I, J, R) (I9, J, R) := by rw [eI9]; exact sm.stI kb5 (mC_arr (by decide) rfl)
  refine lv_aload_n hx hb dX11_base_20 rfl (lv_at hl 0 rfl) ?_
  obtain ⟨b10, mb10, vb10, kb10⟩ := rf_11_4 oR m0 k0
  replace hv := fnR hv vb10
  refine gf_11_4 vb10 hx hb hts hown hH m0 k0 rfl kf_X11_16 dX11_base_21 ?_
  refine lv_aload_n hx hb dX11_base_24 rfl (lv_at hl 0 rfl) ?_
  have f12 : I9 a0 (1) = I4 a0 (1) := (by rw [eI9, u2_ne (ne_role k0 kb5 (by decide))])
  have f11 : z1 = I9 a0 (1) := f6.trans f12.symm
  refine gf_11_1 hx hb hts hown hH m0 k0 rfl kf_X11_127 dX11_base_25 ?_
  refine lv_topi (fun y13 ey13 => ?_)
  obtain rfl : z1 = y13 := f11.trans ey13.symm
  refine lv_iload_n hx hb dX11_base_28 rfl (lv_at hl 3 rfl) ?_
  refine st_66 hx hb hH mb10 kb10 (Rg_in rz1 (by decide)) dX11_base_29 (fun I14 H locs eI14 hH => ?_)
  replace hv := fnS hv eI14
  have oI : OkI L C I14 := by rw [eI14]; exact wr_66 oI kb10 h3
  have sm : Sm C ms_X11_base (I, J, R) (I14, J, R) := by rw [eI14]; exact sm.stI kb10 (mC_arr (by decide) rfl)
  refine lv_aload_n hx hb dX11_base_30 rfl (lv_at hl 0 rfl) ?_
  obtain ⟨b15, mb15, vb15, kb15⟩ := rf_11_5 oR m0 k0
  replace hv := fnR hv vb15
  refine gf_11_5 vb15 hx hb hts hown hH m0 k0 rfl kf_X11_19 dX11_base_31 ?_
  refine lv_aload_n hx hb dX11_base_34 rfl (lv_at hl 0 rfl) ?_
  have f17 : I14 a0 (1) = I9 a0 (1) := (by rw [eI14, u2_ne (ne_role k0 kb10 (by decide))])
  have f16 : z1 = I14 a0 (1) := f11.trans f17.symm
  refine gf_11_1 hx hb hts hown hH m0 k0 rfl kf_X11_127 dX11_base_35 ?_
  refine lv_topi (fun y18 ey18 => ?_)
  obtain rfl : z1 = y18 := f16.trans ey18.symm
  refine lv_iconst (v := 1) hx hb dX11_base_38 (by decide) ?_
  refine st_67 hx hb hH mb15 kb15 (Rg_in rz1 (by decide)) dX11_base_39 (fun I19 H locs eI19 hH => ?_)
  replace hv := fnS hv eI19
  have oI : OkI L C I19 := by rw [eI19]; exact wr_67 oI kb15 (Rg_w (Rg_c (x := 1) (a := (1)) (b := (1)) (by decide)) (by decide))
  have sm : Sm C ms_X11_base (I, J, R) (I19, J, R) := by rw [eI19]; exact sm.stI kb15 (mC_arr (by decide) rfl)
  refine lv_aload_n hx hb dX11_base_40 rfl (lv_at hl 0 rfl) ?_
  obtain ⟨b20, mb20, vb20, kb20⟩ := rf_11_6 oR m0 k0
  replace hv := fnR hv vb20
  refine gf_11_6 vb20 hx hb hts hown hH m0 k0 rfl kf_X11_22 dX11_base_41 ?_
  refine lv_aload_n hx hb dX11_base_44 rfl (lv_at hl 0 rfl) ?_
  have f22 : I19 a0 (1) = I14 a0 (1) := (by rw [eI19, u2_ne (ne_role k0 kb15 (by decide))])
  have f21 : z1 = I19 a0 (1) := f16.trans f22.symm
  refine gf_11_1 hx hb hts hown hH m0 k0 rfl kf_X11_127 dX11_base_45 ?_
  refine lv_topi (fun y23 ey23 => ?_)
  obtain rfl : z1 = y23 := f21.trans ey23.symm
  refine lv_iconst (v := 0) hx hb dX11_base_48 (by decide) ?_
  refine st_68 hx hb hH mb20 kb20 (Rg_in rz1 (by decide)) dX11_base_49 (fun I24 H locs eI24 hH => ?_)
  replace hv := fnS hv eI24
  have oI : OkI L C I24 := by rw [eI24]; exact wr_68 oI kb20 (Rg_w (Rg_c (x := 0) (a := (0)) (b := (0)) (by decide)) (by decide))
  have sm : Sm C ms_X11_base (I, J, R) (I24, J, R) := by rw [eI24]; exact sm.stI kb20 (mC_arr (by decide) rfl)
  refine lv_aload_n hx hb dX11_base_50 rfl (lv_at hl 0 rfl) ?_
  obtain ⟨b25, mb25, vb25, kb25⟩ := rf_11_7 oR m0 k0
  replace hv := fnR hv vb25
  refine gf_11_7 vb25 hx hb hts hown hH m0 k0 rfl kf_X11_25 dX11_base_51 ?_
  refine lv_aload_n hx hb dX11_base_54 rfl (lv_at hl 0 rfl) ?_
  have f27 : I24 a0 (1) = I19 a0 (1) := (by rw [eI24, u2_ne (ne_role k0 kb20 (by decide))])
  have f26 : z1 = I24 a0 (1) := f21.trans f27.symm
  refine gf_11_1 hx hb hts hown hH m0 k0 rfl kf_X11_127 dX11_base_55 ?_
  refine lv_topi (fun y28 ey28 => ?_)
  obtain rfl : z1 = y28 := f26.trans ey28.symm
  refine lv_iconst (v := 1) hx hb dX11_base_58 (by decide) ?_
  refine st_69 hx hb hH mb25 kb25 (Rg_in rz1 (by decide)) (Rg_01 (Rg_w (Rg_c (x := 1) (a := (1)) (b := (1)) (by decide)) (by decide))) dX11_base_59 (fun I29 H locs eI29 hH => ?_)
  replace hv := fnS hv eI29
  have oI : OkI L C I29 := by rw [eI29]; exact wr_69 oI kb25 (Rg_w (Rg_c (x := 1) (a := (1)) (b := (1)) (by decide)) (by decide))
  have sm : Sm C ms_X11_base (I, J, R) (I29, J, R) := by rw [eI29]; exact sm.stI kb25 (mC_arr (by decide) rfl)
  refine lv_aload_n hx hb dX11_base_60 rfl (lv_at hl 0 rfl) ?_
  refine lv_dup hx hb dX11_base_61 rfl ?_
  have f31 : I29 a0 (1) = I24 a0 (1) := (by rw [eI29, u2_ne (ne_role k0 kb25 (by decide))])
  have f30 : z1 = I29 a0 (1) := f26.trans f31.symm
  refine gf_11_1 hx hb hts hown hH m0 k0 rfl kf_X11_127 dX11_base_62 ?_
  refine lv_topi (fun y32 ey32 => ?_)
  obtain rfl : z1 = y32 := f30.trans ey32.symm
  refine lv_iconst (v := 1) hx hb dX11_base_65 (by decide) ?_
  refine lv_iadd hx hb dX11_base_66 ?_
  refine lv_topi (fun y33 ey33 => ?_)
  replace hv := fnS hv ey33
  obtain ⟨ty33, ry33⟩ := Rg_addx (a' := (1)) (b' := (32)) (rfl : z1.toInt = _) (by decide : Int32.toInt 1 = 1) rz1 (Rg_c (x := 1) (a := (1)) (b := (1)) (by decide)) (by decide)
  rw [← ey33] at ty33 ry33
  refine pf_11_1 hx hb hts hown hH m0 k0 rfl kf_X11_127 dX11_base_67 (fun I34 H locs eI34 hH => ?_)
  replace hv := fnS hv eI34
  have oI : OkI L C I34 := by rw [eI34]; exact wf_11_1 oI k0 (Rg_w ry33 (by decide))
  have sm : Sm C ms_X11_base (I, J, R) (I34, J, R) := by rw [eI34]; exact sm.stI k0 (mC_obj (by decide) rfl)
  have f35 : y33 = I34 a0 1 := by rw [eI34, u2_at]
  exact ret _ _ _ _ _ _ _ dX11_base_70 hH ⟨⟨oI, oR, sm⟩, rfl, rfl, (by show Rg (I34 a0 1) _ _; rw [← f35]; exact Rg_w ry33 (by decide)), (by refine ⟨⟨(by show (I34 a0 1).toInt = _; rw [← f35, ty33, ← ez1]), ?_⟩, ?_, ?_, ?_, ?_, ?_, ?_⟩; show I34 a0 1 = _; rw [← f35, ey33, ez1]; intro b hb hk; rw [hU b hb b2 mb2 (hk.trans kb2.symm) (by rw [hk]; rfl)]; show I34 b2 = _; have s36 : I4 b2 = up (I b2) _ _ := (by rw [eI4]; exact u2_up); have s37 : I9 b2 = I4 b2 := (by rw [eI9, u2_ne (ne_role kb2 kb5 (by decide))]); have s38 : I14 b2 = I9 b2 := (by rw [eI14, u2_ne (ne_role kb2 kb10 (by decide))]); have s39 : I19 b2 = I14 b2 := (by rw [eI19, u2_ne (ne_role kb2 kb15 (by decide))]); have s40 : I24 b2 = I19 b2 := (by rw [eI24, u2_ne (ne_role kb2 kb20 (by decide))]); have s41 : I29 b2 = I24 b2 := (by rw [eI29, u2_ne (ne_role kb2 kb25 (by decide))]); have s42 : I34 b2 = I29 b2 := (by rw [eI34, u2_ne (ne_role kb2 k0 (by decide))]); rw [s42, s41, s40, s39, s38, s37, s36, ez1]; intro b hb hk; rw [hU b hb b5 mb5 (hk.trans kb5.symm) (by rw [hk]; rfl)]; show I34 b5 = _; have s43 : I4 b5 = I b5 := (by rw [eI4, u2_ne (ne_role kb5 kb2 (by decide))]); have s44 : I9 b5 = up (I4 b5) _ _ := (by rw [eI9]; exact u2_up); have s45 : I14 b5 = I9 b5 := (by rw [eI14, u2_ne (ne_role kb5 kb10 (by decide))]); have s46 : I19 b5 = I14 b5 := (by rw [eI19, u2_ne (ne_role kb5 kb15 (by decide))]); have s47 : I24 b5 = I19 b5 := (by rw [eI24, u2_ne (ne_role kb5 kb20 (by decide))]); have s48 : I29 b5 = I24 b5 := (by rw [eI29, u2_ne (ne_role kb5 kb25 (by decide))]); have s49 : I34 b5 = I29 b5 := (by rw [eI34, u2_ne (ne_role kb5 k0 (by decide))]); rw [s49, s48, s47, s46, s45, s44, s43, ez1]; intro b hb hk; rw [hU b hb b10 mb10 (hk.trans kb10.symm) (by rw [hk]; rfl)]; show I34 b10 = _; have s50 : I4 b10 = I b10 := (by rw [eI4, u2_ne (ne_role kb10 kb2 (by decide))]); have s51 : I9 b10 = I4 b10 := (by rw [eI9, u2_ne (ne_role kb10 kb5 (by decide))]); have s52 : I14 b10 = up (I9 b10) _ _ := (by rw [eI14]; exact u2_up); have s53 : I19 b10 = I14 b10 := (by rw [eI19, u2_ne (ne_role kb10 kb15 (by decide))]); have s54 : I24 b10 = I19 b10 := (by rw [eI24, u2_ne (ne_role kb10 kb20 (by decide))]); have s55 : I29 b10 = I24 b10 := (by rw [eI29, u2_ne (ne_role kb10 kb25 (by decide))]); have s56 : I34 b10 = I29 b10 := (by rw [eI34, u2_ne (ne_role kb10 k0 (by decide))]); rw [s56, s55, s54, s53, s52, s51, s50, ez1]; intro b hb hk; rw [hU b hb b15 mb15 (hk.trans kb15.symm) (by rw [hk]; rfl)]; show I34 b15 = _; have s57 : I4 b15 = I b15 := (by rw [eI4, u2_ne (ne_role kb15 kb2 (by decide))]); have s58 : I9 b15 = I4 b15 := (by rw [eI9, u2_ne (ne_role kb15 kb5 (by decide))]); have s59 : I14 b15 = I9 b15 := (by rw [eI14, u2_ne (ne_role kb15 kb10 (by decide))]); have s60 : I19 b15 = up (I14 b15) _ _ := (by rw [eI19]; exact u2_up); have s61 : I24 b15 = I19 b15 := (by rw [eI24, u2_ne (ne_role kb15 kb20 (by decide))]); have s62 : I29 b15 = I24 b15 := (by rw [eI29, u2_ne (ne_role kb15 kb25 (by decide))]); have s63 : I34 b15 = I29 b15 := (by rw [eI34, u2_ne (ne_role kb15 k0 (by decide))]); rw [s63, s62, s61, s60, s59, s58, s57, ez1]; intro b hb hk; rw [hU b hb b20 mb20 (hk.trans kb20.symm) (by rw [hk]; rfl)]; show I34 b20 = _; have s64 : I4 b20 = I b20 := (by rw [eI4, u2_ne (ne_role kb20 kb2 (by decide))]); have s65 : I9 b20 = I4 b20 := (by rw [eI9, u2_ne (ne_role kb20 kb5 (by decide))]); have s66 : I14 b20 = I9 b20 := (by rw [eI14, u2_ne (ne_role kb20 kb10 (by decide))]); have s67 : I19 b20 = I14 b20 := (by rw [eI19, u2_ne (ne_role kb20 kb15 (by decide))]); have s68 : I24 b20 = up (I19 b20) _ _ := (by rw [eI24]; exact u2_up); have s69 : I29 b20 = I24 b20 := (by rw [eI29, u2_ne (ne_role kb20 kb25 (by decide))]); have s70 : I34 b20 = I29 b20 := (by rw [eI34, u2_ne (ne_role kb20 k0 (by decide))]); rw [s70, s69, s68, s67, s66, s65, s64, ez1]; intro b hb hk; rw [hU b hb b25 mb25 (hk.trans kb25.symm) (by rw [hk]; rfl)]; show I34 b25 = _; have s71 : I4 b25 = I b25 := (by rw [eI4, u2_ne (ne_role kb25 kb2 (by decide))]); have s72 : I9 b25 = I4 b25 := (by rw [eI9, u2_ne (ne_role kb25 kb5 (by decide))]); have s73 : I14 b25 = I9 b25 := (by rw [eI14, u2_ne (ne_role kb25 kb10 (by decide))]); have s74 : I19 b25 = I14 b25 := (by rw [eI19, u2_ne (ne_role kb25 kb15 (by decide))]); have s75 : I24 b25 = I19 b25 := (by rw [eI24, u2_ne (ne_role kb25 kb20 (by decide))]); have s76 : I29 b25 = up (I24 b25) _ _ := (by rw [eI29]; exact u2_up); have s77 : I34 b25 = I29 b25 := (by rw [eI34, u2_ne (ne_role kb25 k0 (by decide))]); rw [s77, s76, s75, s74, s73, s72, s71, ez1]), (hT.symm.trans hv)⟩
noncomputable def F_X11_fail (a0 : Nat) (x1 : Int32) (x2 : Int32) (I : hI) (J : hJ) (R : hR) : hU :=
  nm (u2 I a0 26 (1 : Int32)) fun I1 => nm (u2 I1 a0 27 x1) fun I3 => nm (u2 I3 a0 28 x2) fun I5 => (I5, J, R)
def ms_X11_fail : List Nat := [730, 731, 732]
set_option maxHeartbeats 4000000 in
set_option maxRecDepth 100000 in
theorem c_X11_fail {l : Launch} {D : va_G} {cy : Nat → ClassId} {L : List Nat} {C : Nat → Nat} {b0 : Nat} {I : hI} {J : hJ} {R : hR} {a0 : Nat} {x1 : Int32} {x2 : Int32} (oI : OkI L C I) (oR : OkR L C R) (m0 : a0 ∈ L) (k0 : C a0 = 11) : CV l yX11_fail cX11_fail 3 0 D cy L C b0 [.ref a0, .int x1, .int x2] (I, J, R) (fun v => Ps L C ms_X11_fail (I, J, R) v ∧ v.2.1 = J ∧ v.2.2 = R ∧ F_X11_fail a0 x1 x2 I J R = v) := by
  refine CV.mk (plainFor_of_name (by decide)) (Nat.le_of_ble_eq_true rfl) ?_
  intro p e s m args below meth c ls Q hF ret hH hl
  obtain ⟨hx, hb, -, hml, hown, hts, -⟩ := hF
  have hl : lv_has ls 3 [(0, .ref a0), (1, .int x1), (2, .int x2)] := hl
  have hH : Hp D cy L C b0 s s.heap I J R s.heap [] := hH
  have sm : Sm C ms_X11_fail (I, J, R) (I, J, R) := Sm.rf
  obtain ⟨TT0, hT⟩ : ∃ TT0, TT0 = F_X11_fail a0 x1 x2 I J R := ⟨_, rfl⟩
  have hv := hT
  unfold F_X11_fail at hv
  refine lv_aload_n hx hb dX11_fail_0 rfl (lv_at hl 0 rfl) ?_
  refine lv_iconst (v := 1) hx hb dX11_fail_1 (by decide) ?_
  refine pf_11_26 hx hb hts hown hH (Rg_01 (Rg_w (Rg_c (x := 1) (a := (1)) (b := (1)) (by decide)) (by decide))) m0 k0 rfl kf_X11_192 dX11_fail_2 (fun I1 H locs eI1 hH => ?_)
  replace hv := fnS hv eI1
  have oI : OkI L C I1 := by rw [eI1]; exact wf_11_26 oI k0 (Rg_w (Rg_c (x := 1) (a := (1)) (b := (1)) (by decide)) (by decide))
  have sm : Sm C ms_X11_fail (I, J, R) (I1, J, R) := by rw [eI1]; exact sm.stI k0 (mC_obj (by decide) rfl)
  have f2 : 1 = I1 a0 26 := by rw [eI1, u2_at]
  refine lv_aload_n hx hb dX11_fail_5 rfl (lv_at hl 0 rfl) ?_
  refine lv_iload_n hx hb dX11_fail_6 rfl (lv_at hl 1 rfl) ?_
  refine pf_11_27 hx hb hts hown hH m0 k0 rfl kf_X11_196 dX11_fail_7 (fun I3 H locs eI3 hH => ?_)
  replace hv := fnS hv eI3
  have oI : OkI L C I3 := by rw [eI3]; exact wf_11_27 oI k0 (Rg_any x1)
  have sm : Sm C ms_X11_fail (I, J, R) (I3, J, R) := by rw [eI3]; exact sm.stI k0 (mC_obj (by decide) rfl)
  have f4 : x1 = I3 a0 27 := by rw [eI3, u2_at]
  refine lv_aload_n hx hb dX11_fail_10 rfl (lv_at hl 0 rfl) ?_
  refine lv_iload_n hx hb dX11_fail_11 rfl (lv_at hl 2 rfl) ?_
  refine pf_11_28 hx hb hts hown hH m0 k0 rfl kf_X11_199 dX11_fail_12 (fun I5 H locs eI5 hH => ?_)
  replace hv := fnS hv eI5
  have oI : OkI L C I5 := by rw [eI5]; exact wf_11_28 oI k0 (Rg_any x2)
  have sm : Sm C ms_X11_fail (I, J, R) (I5, J, R) := by rw [eI5]; exact sm.stI k0 (mC_obj (by decide) rfl)
  have f6 : x2 = I5 a0 28 := by rw [eI5, u2_at]
  exact ret _ _ _ _ _ _ _ dX11_fail_15 hH ⟨⟨oI, oR, sm⟩, rfl, rfl, (hT.symm.trans hv)⟩
noncomputable def F_X11_plus_27 (a0 : Nat) (x1 : Int64) (w2 : Int64) (y7 : Int32) (I : hI) (J_27 : hJ) (R : hR) (xs0_27 : Int32) : Int32 × hU :=
  nm (u2 J_27 a0 55 w2) fun J8 => (xs0_27, (I, J8, R))
noncomputable def F_X11_plus (a0 : Nat) (x1 : Int64) (I : hI) (J : hJ) (R : hR) : Int32 × hU :=
  nm (J a0 55) fun w1 => nm (w1 + x1) fun w2 => nm (J a0 55) fun w3 => nm (w3 ^^^ w2) fun w4 => nm (x1 ^^^ w2) fun w5 => nm (w4 &&& w5) fun w6 => nm (lg_cmp w6 (0 : Int64)) fun y7 => (if y7 < (0 : Int32) then F_X11_plus_27 a0 x1 w2 y7 I J R (0 : Int32) else F_X11_plus_27 a0 x1 w2 y7 I J R (1 : Int32))
def ms_X11_plus : List Nat := [759]
set_option maxHeartbeats 4000000 in
set_option maxRecDepth 100000 in
theorem c_X11_plus {l : Launch} {D : va_G} {cy : Nat → ClassId} {L : List Nat} {C : Nat → Nat} {b0 : Nat} {I : hI} {J : hJ} {R : hR} {a0 : Nat} {x1 : Int64} (oI : OkI L C I) (oR : OkR L C R) (m0 : a0 ∈ L) (k0 : C a0 = 11) : CI l yX11_plus cX11_plus 6 .boolean 0 D cy L C b0 [.ref a0, .long x1] (I, J, R) (fun r v => Ps L C ms_X11_plus (I, J, R) v ∧ v.1 = I ∧ v.2.2 = R ∧ Rg r (0) (1) ∧ F_X11_plus a0 x1 I J R = (r, v)) := by
  refine CI.mkZ (plainFor_of_name (by decide)) (Nat.le_of_ble_eq_true rfl) ?_
  intro p e s m args below meth c ls Q hF ret hH hl
  obtain ⟨hx, hb, -, hml, hown, hts, -⟩ := hF
  have hl : lv_has ls 6 [(0, .ref a0), (1, .long x1)] := hl
  have hH : Hp D cy L C b0 s s.heap I J R s.heap [] := hH
  have sm : Sm C ms_X11_plus (I, J, R) (I, J, R) := Sm.rf
  obtain ⟨TT0, hT⟩ : ∃ TT0, TT0 = F_X11_plus a0 x1 I J R := ⟨_, rfl⟩
  have hv := hT
  unfold F_X11_plus at hv
  refine lv_aload_n hx hb dX11_plus_0 rfl (lv_at hl 0 rfl) ?_
  refine gf_11_55 hx hb hts hown hH m0 k0 rfl kf_X11_290 dX11_plus_1 ?_
  refine lv_topl (fun w1 ew1 => ?_)
  replace hv := fnS hv ew1
  refine lv_lload_n hx hb dX11_plus_4 rfl (lv_at hl 1 rfl) ?_
  refine lv_ladd hx hb dX11_plus_5 ?_
  refine lv_topl (fun w2 ew2 => ?_)
  replace hv := fnS hv ew2
  refine lv_lstore_n (lv' := [(3, .long w2), (0, .ref a0), (1, .long x1)]) hx hb dX11_plus_6 rfl hl (by decide) rfl (fun ls hl => ?_)
  refine lv_aload_n hx hb dX11_plus_7 rfl (lv_at hl 1 rfl) ?_
  refine gf_11_55 hx hb hts hown hH m0 k0 rfl kf_X11_290 dX11_plus_8 ?_
  refine lv_topl (fun w3 ew3 => ?_)
  replace hv := fnS hv ew3
  refine lv_lload_n hx hb dX11_plus_11 rfl (lv_at hl 0 rfl) ?_
  refine lv_lxor hx hb dX11_plus_12 ?_
  refine lv_topl (fun w4 ew4 => ?_)
  replace hv := fnS hv ew4
  refine lv_lload_n hx hb dX11_plus_13 rfl (lv_at hl 2 rfl) ?_
  refine lv_lload_n hx hb dX11_plus_14 rfl (lv_at hl 0 rfl) ?_
  refine lv_lxor hx hb dX11_plus_15 ?_
  refine lv_topl (fun w5 ew5 => ?_)
  replace hv := fnS hv ew5
  refine lv_land hx hb dX11_plus_16 ?_
  refine lv_topl (fun w6 ew6 => ?_)
  replace hv := fnS hv ew6
  refine lv_lconst (v := 0) hx hb dX11_plus_17 (by decide) ?_
  refine W.lcmp hx hb dX11_plus_18 ?_
  refine lv_topi (fun y7 ey7 => ?_)
  replace hv := fnS hv ey7
  have L_27 : ∀ (J_27 : hJ) (H : Heap) (locs : List Loc) (ls : Array Slot) (xs0_27 : Int32), Hp D cy L C b0 s s.heap I J_27 R H locs → TT0 = F_X11_plus_27 a0 x1 w2 y7 I J_27 R xs0_27 → Sm C ms_X11_plus (I, J, R) (I, J_27, R) → Rg xs0_27 (0) (1) → lv_has ls 6 [(0, .ref a0), (3, .long w2)] → W p l e (rmD 0) s m args below meth c H locs 0 0 Q (F0 m 27 ls [.int xs0_27]) := by
    intro J_27 H locs ls xs0_27 hH hv sm rs0_27 hl
    unfold F_X11_plus_27 at hv
    refine lv_istore (lv' := [(5, .int xs0_27), (0, .ref a0), (3, .long w2)]) hx hb dX11_plus_27 hl (by decide) rfl (fun ls hl => ?_)
    refine lv_aload_n hx hb dX11_plus_29 rfl (lv_at hl 1 rfl) ?_
    refine lv_lload_n hx hb dX11_plus_30 rfl (lv_at hl 2 rfl) ?_
    refine pf_11_55 hx hb hts hown hH m0 k0 rfl kf_X11_290 dX11_plus_31 (fun J8 H locs eJ8 hH => ?_)
    replace hv := fnS hv eJ8
    have sm : Sm C ms_X11_plus (I, J, R) (I, J8, R) := by rw [eJ8]; exact sm.stJ k0 (mC_obj (by decide) rfl)
    refine lv_iload hx hb dX11_plus_34 (lv_at hl 0 rfl) ?_
    exact ret (xs0_27) _ _ _ _ _ _ _ dX11_plus_36 hH (Rg_01 (Rg_w rs0_27 (by decide))) ⟨⟨oI, oR, sm⟩, rfl, rfl, rs0_27, (hT.symm.trans hv)⟩
  refine lv_if_lt (tgt := 26) hx hb dX11_plus_19 (by decide) (fun q9 => ?_) (fun q9 => ?_)
  · replace hv := fnP hv q9
    have l10 := lc_lt ey7 q9
    have r11 : Rg y7 (-2147483648) (-1) := Rg_ult (Rg_any y7) (Rg_lt q9) (Rg_c (x := 0) (a := (0)) (b := (0)) (by decide)) (by decide)
    refine lv_iconst (v := 0) hx hb dX11_plus_26 (by decide) ?_
    exact L_27 J _ _ _ 0 hH hv sm (Rg_w (Rg_c (x := 0) (a := (0)) (b := (0)) (by decide)) (by decide)) (lv_sub hl [1, 0] rfl)
  replace hv := fnN hv q9
  have l12 := lc_nlt ey7 q9
  have r13 : Rg y7 (0) (2147483647) := Rg_lle (Rg_any y7) (Rg_nlt q9) (Rg_c (x := 0) (a := (0)) (b := (0)) (by decide)) (by decide)
  refine lv_iconst (v := 1) hx hb dX11_plus_22 (by decide) ?_
  refine lv_goto (tgt := 27) hx hb dX11_plus_23 (by decide) ?_
  exact L_27 J _ _ _ 1 hH hv sm (Rg_w (Rg_c (x := 1) (a := (1)) (b := (1)) (by decide)) (by decide)) (lv_sub hl [1, 0] rfl)
noncomputable def F_X11_counted_34 (a0 : Nat) (x1 : Int32) (y1 : Int32) (I_34 : hI) (J : hJ) (R : hR) (xs0_34 : Int32) (xs1_34 : Int32) : Int32 × hU :=
  nm (xs1_34 + xs0_34) fun y2 => nm (u2 I_34 a0 30 y2) fun I3 => (x1, (I3, J, R))
noncomputable def F_X11_counted_14 (a0 : Nat) (x1 : Int32) (y1 : Int32) (I_14 : hI) (J : hJ) (R : hR) (xs0_14 : Int32) : Int32 × hU :=
  nm (y1 + xs0_14) fun y5 => nm (u2 I_14 a0 29 y5) fun I6 => nm (I6 a0 30) fun y8 => (if x1 = (-7 : Int32) then F_X11_counted_34 a0 x1 y1 I6 J R (1 : Int32) y8 else F_X11_counted_34 a0 x1 y1 I6 J R (0 : Int32) y8)
noncomputable def F_X11_counted (a0 : Nat) (x1 : Int32) (I : hI) (J : hJ) (R : hR) : Int32 × hU :=
  nm (I a0 29) fun y1 => (if x1 = (0 : Int32) then F_X11_counted_14 a0 x1 y1 I J R (1 : Int32) else F_X11_counted_14 a0 x1 y1 I J R (0 : Int32))
def ms_X11_counted : List Nat := [733, 734]
set_option maxHeartbeats 4000000 in
set_option maxRecDepth 100000 in
theorem c_X11_counted {l : Launch} {D : va_G} {cy : Nat → ClassId} {L : List Nat} {C : Nat → Nat} {b0 : Nat} {I : hI} {J : hJ} {R : hR} {a0 : Nat} {x1 : Int32} (oI : OkI L C I) (oR : OkR L C R) (m0 : a0 ∈ L) (k0 : C a0 = 11) : CI l yX11_counted cX11_counted 2 .int 0 D cy L C b0 [.ref a0, .int x1] (I, J, R) (fun r v => Ps L C ms_X11_counted (I, J, R) v ∧ v.2.1 = J ∧ v.2.2 = R ∧ F_X11_counted a0 x1 I J R = (r, v)) := by
  refine CI.mkI (plainFor_of_name (by decide)) (Nat.le_of_ble_eq_true rfl) ?_
  intro p e s m args below meth c ls Q hF ret hH hl
  obtain ⟨hx, hb, -, hml, hown, hts, -⟩ := hF
  have hl : lv_has ls 2 [(0, .ref a0), (1, .int x1)] := hl
  have hH : Hp D cy L C b0 s s.heap I J R s.heap [] := hH
  have sm : Sm C ms_X11_counted (I, J, R) (I, J, R) := Sm.rf
  obtain ⟨TT0, hT⟩ : ∃ TT0, TT0 = F_X11_counted a0 x1 I J R := ⟨_, rfl⟩
  have hv := hT
  unfold F_X11_counted at hv
  refine lv_aload_n hx hb dX11_counted_0 rfl (lv_at hl 0 rfl) ?_
  refine lv_dup hx hb dX11_counted_1 rfl ?_
  refine gf_11_29 hx hb hts hown hH m0 k0 rfl kf_X11_306 dX11_counted_2 ?_
  refine lv_topi (fun y1 ey1 => ?_)
  replace hv := fnS hv ey1
  refine lv_iload_n hx hb dX11_counted_5 rfl (lv_at hl 1 rfl) ?_
  have L_34 : ∀ (I_34 : hI) (H : Heap) (locs : List Loc) (ls : Array Slot) (xs0_34 : Int32) (xs1_34 : Int32), Hp D cy L C b0 s s.heap I_34 J R H locs → TT0 = F_X11_counted_34 a0 x1 y1 I_34 J R xs0_34 xs1_34 → OkI L C I_34 → Sm C ms_X11_counted (I, J, R) (I_34, J, R) → Rg xs0_34 (0) (1) → lv_has ls 2 [(1, .int x1)] → W p l e (rmD 0) s m args below meth c H locs 0 0 Q (F0 m 34 ls [.int xs0_34, .int xs1_34, .ref a0]) := by
    intro I_34 H locs ls xs0_34 xs1_34 hH hv oI sm rs0_34 hl
    unfold F_X11_counted_34 at hv
    refine lv_iadd hx hb dX11_counted_34 ?_
    refine lv_topi (fun y2 ey2 => ?_)
    replace hv := fnS hv ey2
    refine pf_11_30 hx hb hts hown hH m0 k0 rfl kf_X11_309 dX11_counted_35 (fun I3 H locs eI3 hH => ?_)
    replace hv := fnS hv eI3
    have oI : OkI L C I3 := by rw [eI3]; exact wf_11_30 oI k0 (Rg_any y2)
    have sm : Sm C ms_X11_counted (I, J, R) (I3, J, R) := by rw [eI3]; exact sm.stI k0 (mC_obj (by decide) rfl)
    have f4 : y2 = I3 a0 30 := by rw [eI3, u2_at]
    refine lv_iload_n hx hb dX11_counted_38 rfl (lv_at hl 0 rfl) ?_
    exact ret (x1) _ _ _ _ _ _ _ dX11_counted_39 hH ⟨⟨oI, oR, sm⟩, rfl, rfl, (hT.symm.trans hv)⟩
  have L_14 : ∀ (I_14 : hI) (H : Heap) (locs : List Loc) (ls : Array Slot) (xs0_14 : Int32), Hp D cy L C b0 s s.heap I_14 J R H locs → TT0 = F_X11_counted_14 a0 x1 y1 I_14 J R xs0_14 → OkI L C I_14 → Sm C ms_X11_counted (I, J, R) (I_14, J, R) → Rg xs0_14 (0) (1) → lv_has ls 2 [(0, .ref a0), (1, .int x1)] → W p l e (rmD 0) s m args below meth c H locs 0 0 Q (F0 m 14 ls [.int xs0_14, .int y1, .ref a0]) := by
    intro I_14 H locs ls xs0_14 hH hv oI sm rs0_14 hl
    unfold F_X11_counted_14 at hv
    refine lv_iadd hx hb dX11_counted_14 ?_
    refine lv_topi (fun y5 ey5 => ?_)
    replace hv := fnS hv ey5
    refine pf_11_29 hx hb hts hown hH m0 k0 rfl kf_X11_306 dX11_counted_15 (fun I6 H locs eI6 hH => ?_)
    replace hv := fnS hv eI6
    have oI : OkI L C I6 := by rw [eI6]; exact wf_11_29 oI k0 (Rg_any y5)
    have sm : Sm C ms_X11_counted (I, J, R) (I6, J, R) := by rw [eI6]; exact sm.stI k0 (mC_obj (by decide) rfl)
    have f7 : y5 = I6 a0 29 := by rw [eI6, u2_at]
    refine lv_aload_n hx hb dX11_counted_18 rfl (lv_at hl 0 rfl) ?_
    refine lv_dup hx hb dX11_counted_19 rfl ?_
    refine gf_11_30 hx hb hts hown hH m0 k0 rfl kf_X11_309 dX11_counted_20 ?_
    refine lv_topi (fun y8 ey8 => ?_)
    replace hv := fnS hv ey8
    refine lv_iload_n hx hb dX11_counted_23 rfl (lv_at hl 1 rfl) ?_
    refine lv_bipush (v := (-7)) hx hb dX11_counted_24 (by decide) ?_
    refine lv_icmp_ne (tgt := 33) hx hb dX11_counted_26 (by decide) (fun q9 => ?_) (fun q9 => ?_)
    · replace hv := fnN hv q9
      refine lv_iconst (v := 0) hx hb dX11_counted_33 (by decide) ?_
      exact L_34 I6 _ _ _ 0 y8 hH hv oI sm (Rg_w (Rg_c (x := 0) (a := (0)) (b := (0)) (by decide)) (by decide)) (lv_sub hl [1] rfl)
    replace hv := fnP hv q9
    have r10 : Rg x1 (-7) (-7) := Rg_both (Rg_any x1) (Rg_eqv q9 (Rg_c (x := (-7)) (a := (-7)) (b := (-7)) (by decide))) (by decide)
    refine lv_iconst (v := 1) hx hb dX11_counted_29 (by decide) ?_
    refine lv_goto (tgt := 34) hx hb dX11_counted_30 (by decide) ?_
    exact L_34 I6 _ _ _ 1 y8 hH hv oI sm (Rg_w (Rg_c (x := 1) (a := (1)) (b := (1)) (by decide)) (by decide)) (lv_sub hl [1] rfl)
  refine lv_if_ne (tgt := 13) hx hb dX11_counted_6 (by decide) (fun q11 => ?_) (fun q11 => ?_)
  · replace hv := fnN hv q11
    refine lv_iconst (v := 0) hx hb dX11_counted_13 (by decide) ?_
    exact L_14 I _ _ _ 0 hH hv oI sm (Rg_w (Rg_c (x := 0) (a := (0)) (b := (0)) (by decide)) (by decide)) (lv_sub hl [0, 1] rfl)
  replace hv := fnP hv q11
  have r12 : Rg x1 (0) (0) := Rg_both (Rg_any x1) (Rg_eqv q11 (Rg_c (x := 0) (a := (0)) (b := (0)) (by decide))) (by decide)
  refine lv_iconst (v := 1) hx hb dX11_counted_9 (by decide) ?_
  refine lv_goto (tgt := 14) hx hb dX11_counted_10 (by decide) ?_
  exact L_14 I _ _ _ 1 hH hv oI sm (Rg_w (Rg_c (x := 1) (a := (1)) (b := (1)) (by decide)) (by decide)) (lv_sub hl [0, 1] rfl)
noncomputable def F_X11_isAhead_67 (a0 : Nat) (x1 : Int32) (x2 : Int32) (x3 : Int32) (x4 : Int32) (x5_3 : Int32) (k_3 : hI → hJ → hR → Int32 → (Int32)) (I : hI) (J : hJ) (R : hR) (xs0_67 : Int32) : Int32 :=
  xs0_67
noncomputable def F_X11_isAhead_32 (a0 : Nat) (x1 : Int32) (x2 : Int32) (x3 : Int32) (x4 : Int32) (x5_3 : Int32) (k_3 : hI → hJ → hR → Int32 → (Int32)) (I : hI) (J : hJ) (R : hR) (xs0_32 : Int32) : Int32 :=
  nm ((R a0 36).getD 0) fun b1 => nm (x3 + x5_3) fun y2 => nm (I b1 (Int32.toNatClampNeg y2)) fun y3 => (if xs0_32 = y3 then nm (x5_3 + (1 : Int32)) fun y5 => k_3 I J R y5 else (if y3 ≤ xs0_32 then F_X11_isAhead_67 a0 x1 x2 x3 x4 x5_3 k_3 I J R (0 : Int32) else F_X11_isAhead_67 a0 x1 x2 x3 x4 x5_3 k_3 I J R (1 : Int32)))
noncomputable def B_X11_isAhead_3 (a0 : Nat) (x1 : Int32) (x2 : Int32) (x3 : Int32) (x4 : Int32) (k_3 : hI → hJ → hR → Int32 → (Int32)) (I : hI) (J : hJ) (R : hR) (x5_3 : Int32) : Int32 :=
  (if x4 ≤ x5_3 then (0 : Int32) else nm (x4 - (1 : Int32)) fun y14 => (if x5_3 = y14 then F_X11_isAhead_32 a0 x1 x2 x3 x4 x5_3 k_3 I J R x2 else nm ((R a0 36).getD 0) fun b16 => nm (x1 + x5_3) fun y17 => nm (I b16 (Int32.toNatClampNeg y17)) fun y18 => F_X11_isAhead_32 a0 x1 x2 x3 x4 x5_3 k_3 I J R y18))
noncomputable def F_X11_isAhead_3 (a0 : Nat) (x1 : Int32) (x2 : Int32) (x3 : Int32) (x4 : Int32) : Nat → hI → hJ → hR → Int32 → (Int32) := fun n => Nat.rec (motive := fun _ => hI → hJ → hR → Int32 → (Int32)) (fun _ _ _ _ => default) (fun _ k => B_X11_isAhead_3 a0 x1 x2 x3 x4 k) n
theorem F_X11_isAhead_3_s {a0 : Nat} {x1 : Int32} {x2 : Int32} {x3 : Int32} {x4 : Int32} {n : Nat} {I : hI} {J : hJ} {R : hR} {x5_3 : Int32} : F_X11_isAhead_3 a0 x1 x2 x3 x4 (n + 1)  I J R x5_3 = B_X11_isAhead_3 a0 x1 x2 x3 x4 (F_X11_isAhead_3 a0 x1 x2 x3 x4 n)  I J R x5_3 := rfl
noncomputable def F_X11_isAhead (a0 : Nat) (x1 : Int32) (x2 : Int32) (x3 : Int32) (x4 : Int32) (I : hI) (J : hJ) (R : hR) : Int32 :=
  F_X11_isAhead_3 a0 x1 x2 x3 x4 ((6 - (0 : Int32).toInt).toNat + 1) I J R (0 : Int32)
set_option maxHeartbeats 4000000 in
set_option maxRecDepth 100000 in
theorem c_X11_isAhead {l : Launch} {D : va_G} {cy : Nat → ClassId} {L : List Nat} {C : Nat → Nat} {b0 : Nat} {I : hI} {J : hJ} {R : hR} {a0 : Nat} {x1 : Int32} {x2 : Int32} {x3 : Int32} {x4 : Int32} (oI : OkI L C I) (oR : OkR L C R) (m0 : a0 ∈ L) (k0 : C a0 = 11) (h1 : Rg x1 (0) (288)) (h2 : Rg x2 (0) (31)) (h3 : Rg x3 (0) (288)) (h4 : Rg x4 (1) (6)) : CI l yX11_isAhead cX11_isAhead 7 .boolean 0 D cy L C b0 [.ref a0, .int x1, .int x2, .int x3, .int x4] (I, J, R) (fun r v => v.1 = I ∧ v.2.1 = J ∧ v.2.2 = R ∧ Rg r (0) (1) ∧ F_X11_isAhead a0 x1 x2 x3 x4 I J R = r) := by
  refine CI.mkZ (plainFor_of_name (by decide)) (Nat.le_of_ble_eq_true rfl) ?_
  intro p e s m args below meth c ls Q hF ret hH hl
  obtain ⟨hx, hb, -, hml, hown, hts, -⟩ := hF
  have hl : lv_has ls 7 [(0, .ref a0), (1, .int x1), (2, .int x2), (3, .int x3), (4, .int x4)] := hl
  have hH : Hp D cy L C b0 s s.heap I J R s.heap [] := hH
  obtain ⟨TT0, hT⟩ : ∃ TT0, TT0 = F_X11_isAhead a0 x1 x2 x3 x4 I J R := ⟨_, rfl⟩
  have hv := hT
  unfold F_X11_isAhead at hv
  refine lv_iconst (v := 0) hx hb dX11_isAhead_0 (by decide) ?_
  refine lv_istore (lv' := [(5, .int 0), (0, .ref a0), (1, .int x1), (2, .int x2), (3, .int x3), (4, .int x4)]) hx hb dX11_isAhead_1 hl (by decide) rfl (fun ls hl => ?_)
  have L_3 : ∀ (n_3 : Nat) (H : Heap) (locs : List Loc) (ls : Array Slot) (x5_3 : Int32), (6 - x5_3.toInt).toNat < n_3 → Hp D cy L C b0 s s.heap I J R H locs → TT0 = F_X11_isAhead_3 a0 x1 x2 x3 x4 n_3 I J R x5_3 → Rg x1 (0) (288) → Rg x2 (0) (31) → Rg x3 (0) (288) → Rg x4 (1) (6) → Rg x5_3 (0) (6) → lv_has ls 7 [(0, .ref a0), (1, .int x1), (2, .int x2), (3, .int x3), (4, .int x4), (5, .int x5_3)] → W p l e (rmD 0) s m args below meth c H locs 0 0 Q (F0 m 3 ls []) := by
    intro n_3
    induction n_3 with
    | zero => intro H locs ls x5_3 h; exact absurd h (Nat.not_lt_zero _)
    | succ n_3 ih_3 =>
      intro H locs ls x5_3 hn_3 hH hv r1_3 r2_3 r3_3 r4_3 r5_3 hl
      replace hv := hv.trans F_X11_isAhead_3_s
      unfold B_X11_isAhead_3 at hv
      have L_67 : ∀ (H : Heap) (locs : List Loc) (ls : Array Slot) (xs0_67 : Int32), Hp D cy L C b0 s s.heap I J R H locs → TT0 = F_X11_isAhead_67 a0 x1 x2 x3 x4 x5_3 (F_X11_isAhead_3 a0 x1 x2 x3 x4 n_3) I J R xs0_67 → Rg xs0_67 (0) (1) → lv_has ls 7 [] → W p l e (rmD 0) s m args below meth c H locs 0 0 Q (F0 m 67 ls [.int xs0_67]) := by
        intro H locs ls xs0_67 hH hv rs0_67 hl
        unfold F_X11_isAhead_67 at hv
        exact ret (xs0_67) _ _ _ _ _ _ _ dX11_isAhead_67 hH (Rg_01 (Rg_w rs0_67 (by decide))) ⟨rfl, rfl, rfl, rs0_67, (hT.symm.trans hv)⟩
      have L_32 : ∀ (H : Heap) (locs : List Loc) (ls : Array Slot) (xs0_32 : Int32), Hp D cy L C b0 s s.heap I J R H locs → TT0 = F_X11_isAhead_32 a0 x1 x2 x3 x4 x5_3 (F_X11_isAhead_3 a0 x1 x2 x3 x4 n_3) I J R xs0_32 → Rg xs0_32 (0) (31) → Rg x1 (0) (288) → Rg x2 (0) (31) → Rg x3 (0) (288) → Rg x4 (1) (6) → Rg x5_3 (0) (5) → lv_has ls 7 [(0, .ref a0), (1, .int x1), (2, .int x2), (3, .int x3), (4, .int x4), (5, .int x5_3)] → W p l e (rmD 0) s m args below meth c H locs 0 0 Q (F0 m 32 ls [.int xs0_32]) := by
        intro H locs ls xs0_32 hH hv rs0_32 r1_32 r2_32 r3_32 r4_32 r5_32 hl
        unfold F_X11_isAhead_32 at hv
        refine lv_istore (lv' := [(6, .int xs0_32), (0, .ref a0), (1, .int x1), (2, .int x2), (3, .int x3), (4, .int x4), (5, .int x5_3)]) hx hb dX11_isAhead_32 hl (by decide) rfl (fun ls hl => ?_)
        refine lv_iload hx hb dX11_isAhead_34 (lv_at hl 0 rfl) ?_
        refine lv_aload_n hx hb dX11_isAhead_36 rfl (lv_at hl 1 rfl) ?_
        obtain ⟨b1, mb1, vb1, kb1⟩ := rf_11_36 oR m0 k0
        replace hv := fnR hv vb1
        refine gf_11_36 vb1 hx hb hts hown hH m0 k0 rfl kf_X11_87 dX11_isAhead_37 ?_
        refine lv_iload_n hx hb dX11_isAhead_40 rfl (lv_at hl 4 rfl) ?_
        refine lv_iload hx hb dX11_isAhead_41 (lv_at hl 6 rfl) ?_
        refine lv_iadd hx hb dX11_isAhead_43 ?_
        refine lv_topi (fun y2 ey2 => ?_)
        replace hv := fnS hv ey2
        obtain ⟨ty2, ry2⟩ := Rg_addx (a' := (0)) (b' := (293)) (rfl : x3.toInt = _) (rfl : x5_3.toInt = _) r3_32 r5_32 (by decide)
        rw [← ey2] at ty2 ry2
        refine ld_89 hx hb hH mb1 kb1 (Rg_in ry2 (by decide)) dX11_isAhead_44 ?_
        refine lv_topi (fun y3 ey3 => ?_)
        have ry3 : Rg y3 (0) (31) := by rw [ey3]; exact rd_89 oI mb1 kb1 (Rg_in ry2 (by decide))
        replace hv := fnS hv ey3
        refine lv_icmp_eq (tgt := 68) hx hb dX11_isAhead_45 (by decide) (fun q4 => ?_) (fun q4 => ?_)
        · replace hv := fnP hv q4
          obtain ⟨y5, ey5⟩ : ∃ y : Int32, y = x5_3 + 1 := ⟨_, rfl⟩
          replace hv := fnS hv ey5
          obtain ⟨ty5, ry5⟩ := Rg_addx (a' := (1)) (b' := (6)) (rfl : x5_3.toInt = _) (by decide : Int32.toInt 1 = 1) r5_32 (Rg_c (x := 1) (a := (1)) (b := (1)) (by decide)) (by decide)
          rw [← ey5] at ty5 ry5
          refine lv_iinc (v := y5) (lv' := [(5, .int y5), (6, .int xs0_32), (0, .ref a0), (1, .int x1), (2, .int x2), (3, .int x3), (4, .int x4)]) hx hb dX11_isAhead_68 hl (k := 6) rfl (by rw [ey5]; rfl) (by decide) rfl (fun ls hl => ?_)
          refine lv_goto (tgt := 3) hx hb dX11_isAhead_71 (by decide) ?_
          exact ih_3 _ _ _ y5 (lp_up hn_3 ty5 (Rg_ltc r5_32 (by decide))) hH hv r1_32 r2_32 r3_32 r4_32 (Rg_w ry5 (by decide)) (lv_sub hl [2, 3, 4, 5, 6, 0] rfl)
        replace hv := fnN hv q4
        refine lv_iload hx hb dX11_isAhead_48 (lv_at hl 0 rfl) ?_
        refine lv_aload_n hx hb dX11_isAhead_50 rfl (lv_at hl 1 rfl) ?_
        refine gf_11_36 vb1 hx hb hts hown hH m0 k0 rfl kf_X11_87 dX11_isAhead_51 ?_
        refine lv_iload_n hx hb dX11_isAhead_54 rfl (lv_at hl 4 rfl) ?_
        refine lv_iload hx hb dX11_isAhead_55 (lv_at hl 6 rfl) ?_
        refine lv_iadd hx hb dX11_isAhead_57 ?_
        refine lv_topi (fun y6 ey6 => ?_)
        obtain rfl : y2 = y6 := ey2.trans ey6.symm
        refine ld_89 hx hb hH mb1 kb1 (Rg_in ry2 (by decide)) dX11_isAhead_58 ?_
        refine lv_topi (fun y7 ey7 => ?_)
        obtain rfl : y3 = y7 := ey3.trans ey7.symm
        refine lv_icmp_ge (tgt := 66) hx hb dX11_isAhead_59 (by decide) (fun q8 => ?_) (fun q8 => ?_)
        · replace hv := fnP hv q8
          refine lv_iconst (v := 0) hx hb dX11_isAhead_66 (by decide) ?_
          exact L_67 _ _ _ 0 hH hv (Rg_w (Rg_c (x := 0) (a := (0)) (b := (0)) (by decide)) (by decide)) (lv_sub hl [] rfl)
        replace hv := fnN hv q8
        have r9 : Rg xs0_32 (0) (30) := Rg_ult rs0_32 (Rg_nle q8) ry3 (by decide)
        have r10 : Rg y3 (1) (31) := Rg_llt ry3 (Rg_nle q8) rs0_32 (by decide)
        refine lv_iconst (v := 1) hx hb dX11_isAhead_62 (by decide) ?_
        refine lv_goto (tgt := 67) hx hb dX11_isAhead_63 (by decide) ?_
        exact L_67 _ _ _ 1 hH hv (Rg_w (Rg_c (x := 1) (a := (1)) (b := (1)) (by decide)) (by decide)) (lv_sub hl [] rfl)
      refine lv_iload hx hb dX11_isAhead_3 (lv_at hl 5 rfl) ?_
      refine lv_iload hx hb dX11_isAhead_5 (lv_at hl 4 rfl) ?_
      refine lv_icmp_ge (tgt := 74) hx hb dX11_isAhead_7 (by decide) (fun q11 => ?_) (fun q11 => ?_)
      · replace hv := fnP hv q11
        have r12 : Rg x5_3 (1) (6) := Rg_lle r5_3 (Rg_le q11) r4_3 (by decide)
        refine lv_iconst (v := 0) hx hb dX11_isAhead_74 (by decide) ?_
        exact ret (0) _ _ _ _ _ _ _ dX11_isAhead_75 hH (Rg_01 (Rg_w (Rg_c (x := 0) (a := (0)) (b := (0)) (by decide)) (by decide))) ⟨rfl, rfl, rfl, (Rg_w (Rg_c (x := 0) (a := (0)) (b := (0)) (by decide)) (by decide)), (hT.symm.trans hv)⟩
      replace hv := fnN hv q11
      have r13 : Rg x5_3 (0) (5) := Rg_ult r5_3 (Rg_nle q11) r4_3 (by decide)
      refine lv_iload hx hb dX11_isAhead_10 (lv_at hl 5 rfl) ?_
      refine lv_iload hx hb dX11_isAhead_12 (lv_at hl 4 rfl) ?_
      refine lv_iconst (v := 1) hx hb dX11_isAhead_14 (by decide) ?_
      refine lv_isub hx hb dX11_isAhead_15 ?_
      refine lv_topi (fun y14 ey14 => ?_)
      replace hv := fnS hv ey14
      obtain ⟨ty14, ry14⟩ := Rg_subx (a' := (0)) (b' := (5)) (rfl : x4.toInt = _) (by decide : Int32.toInt 1 = 1) r4_3 (Rg_c (x := 1) (a := (1)) (b := (1)) (by decide)) (by decide)
      rw [← ey14] at ty14 ry14
      refine lv_icmp_ne (tgt := 23) hx hb dX11_isAhead_16 (by decide) (fun q15 => ?_) (fun q15 => ?_)
      rotate_left
      · replace hv := fnP hv q15
        refine lv_iload_n hx hb dX11_isAhead_19 rfl (lv_at hl 2 rfl) ?_
        refine lv_goto (tgt := 32) hx hb dX11_isAhead_20 (by decide) ?_
        exact L_32 _ _ _ x2 hH hv r2_3 r1_3 r2_3 r3_3 r4_3 r13 (lv_sub hl [0, 1, 2, 3, 4, 5] rfl)
      replace hv := fnN hv q15
      refine lv_aload_n hx hb dX11_isAhead_23 rfl (lv_at hl 0 rfl) ?_
      obtain ⟨b16, mb16, vb16, kb16⟩ := rf_11_36 oR m0 k0
      replace hv := fnR hv vb16
      refine gf_11_36 vb16 hx hb hts hown hH m0 k0 rfl kf_X11_87 dX11_isAhead_24 ?_
      refine lv_iload_n hx hb dX11_isAhead_27 rfl (lv_at hl 1 rfl) ?_
      refine lv_iload hx hb dX11_isAhead_28 (lv_at hl 5 rfl) ?_
      refine lv_iadd hx hb dX11_isAhead_30 ?_
      refine lv_topi (fun y17 ey17 => ?_)
      replace hv := fnS hv ey17
      obtain ⟨ty17, ry17⟩ := Rg_addx (a' := (0)) (b' := (293)) (rfl : x1.toInt = _) (rfl : x5_3.toInt = _) r1_3 r13 (by decide)
      rw [← ey17] at ty17 ry17
      refine ld_89 hx hb hH mb16 kb16 (Rg_in ry17 (by decide)) dX11_isAhead_31 ?_
      refine lv_topi (fun y18 ey18 => ?_)
      have ry18 : Rg y18 (0) (31) := by rw [ey18]; exact rd_89 oI mb16 kb16 (Rg_in ry17 (by decide))
      replace hv := fnS hv ey18
      exact L_32 _ _ _ y18 hH hv ry18 r1_3 r2_3 r3_3 r4_3 r13 (lv_sub hl [0, 1, 2, 3, 4, 5] rfl)
  exact L_3 ((6 - (0 : Int32).toInt).toNat + 1) _ _ _ 0 (Nat.lt_succ_self _) hH hv h1 h2 h3 h4 (Rg_w (Rg_c (x := 0) (a := (0)) (b := (0)) (by decide)) (by decide)) (lv_sub hl [1, 2, 3, 4, 5, 0] rfl)
noncomputable def F_J13_compare_74951_21 (x1 : Int64) (x2 : Int64) (y1 : Int32)  (xs0_21 : Int32) : Int32 :=
  xs0_21
noncomputable def F_J13_compare_74951 (x1 : Int64) (x2 : Int64) : Int32 :=
  nm (lg_cmp x1 x2) fun y1 => (if (0 : Int32) ≤ y1 then nm (lg_cmp x1 x2) fun y5 => (if y5 = (0 : Int32) then F_J13_compare_74951_21 x1 x2 y1 (0 : Int32) else F_J13_compare_74951_21 x1 x2 y1 (1 : Int32)) else F_J13_compare_74951_21 x1 x2 y1 (-1 : Int32))
set_option maxHeartbeats 4000000 in
set_option maxRecDepth 100000 in
theorem c_J13_compare_74951 {l : Launch} {D : va_G} {cy : Nat → ClassId} {L : List Nat} {C : Nat → Nat} {b0 : Nat} {I : hI} {J : hJ} {R : hR} {x1 : Int64} {x2 : Int64}  : CI l yJ13_compare_74951 cJ13_compare_74951 4 .int 0 D cy L C b0 [.long x1, .long x2] (I, J, R) (fun r v => v.1 = I ∧ v.2.1 = J ∧ v.2.2 = R ∧ Rg r (-1) (1) ∧ F_J13_compare_74951 x1 x2 = r) := by
  refine CI.mkI (by decide +kernel) (Nat.le_of_ble_eq_true rfl) ?_
  intro p e s m args below meth c ls Q hF ret hH hl
  obtain ⟨hx, hb, -, hml, hown, hts, -⟩ := hF
  have hl : lv_has ls 4 [(0, .long x1), (2, .long x2)] := hl
  have hH : Hp D cy L C b0 s s.heap I J R s.heap [] := hH
  obtain ⟨TT0, hT⟩ : ∃ TT0, TT0 = F_J13_compare_74951 x1 x2 := ⟨_, rfl⟩
  have hv := hT
  unfold F_J13_compare_74951 at hv
  refine lv_lload_n hx hb dJ13_compare_74951_0 rfl (lv_at hl 0 rfl) ?_
  refine lv_lload_n hx hb dJ13_compare_74951_1 rfl (lv_at hl 1 rfl) ?_
  refine W.lcmp hx hb dJ13_compare_74951_2 ?_
  refine lv_topi (fun y1 ey1 => ?_)
  replace hv := fnS hv ey1
  have L_21 : ∀ (H : Heap) (locs : List Loc) (ls : Array Slot) (xs0_21 : Int32), Hp D cy L C b0 s s.heap I J R H locs → TT0 = F_J13_compare_74951_21 x1 x2 y1 xs0_21 → Rg xs0_21 (-1) (1) → lv_has ls 4 [] → W p l e (rmD 0) s m args below meth c H locs 0 0 Q (F0 m 21 ls [.int xs0_21]) := by
    intro H locs ls xs0_21 hH hv rs0_21 hl
    unfold F_J13_compare_74951_21 at hv
    exact ret (xs0_21) _ _ _ _ _ _ _ dJ13_compare_74951_21 hH ⟨rfl, rfl, rfl, rs0_21, (hT.symm.trans hv)⟩
  refine lv_if_ge (tgt := 10) hx hb dJ13_compare_74951_3 (by decide) (fun q2 => ?_) (fun q2 => ?_)
  rotate_left
  · replace hv := fnN hv q2
    have l10 := lc_nge ey1 q2
    have r11 : Rg y1 (-2147483648) (-1) := Rg_ult (Rg_any y1) (Rg_nle q2) (Rg_c (x := 0) (a := (0)) (b := (0)) (by decide)) (by decide)
    refine lv_iconst (v := (-1)) hx hb dJ13_compare_74951_6 (by decide) ?_
    refine lv_goto (tgt := 21) hx hb dJ13_compare_74951_7 (by decide) ?_
    exact L_21 _ _ _ (-1) hH hv (Rg_w (Rg_c (x := (-1)) (a := (-1)) (b := (-1)) (by decide)) (by decide)) (lv_sub hl [] rfl)
  replace hv := fnP hv q2
  have l3 := lc_ge ey1 q2
  have r4 : Rg y1 (0) (2147483647) := Rg_lle (Rg_any y1) (Rg_le q2) (Rg_c (x := 0) (a := (0)) (b := (0)) (by decide)) (by decide)
  refine lv_lload_n hx hb dJ13_compare_74951_10 rfl (lv_at hl 0 rfl) ?_
  refine lv_lload_n hx hb dJ13_compare_74951_11 rfl (lv_at hl 1 rfl) ?_
  refine W.lcmp hx hb dJ13_compare_74951_12 ?_
  refine lv_topi (fun y5 ey5 => ?_)
  replace hv := fnS hv ey5
  refine lv_if_ne (tgt := 20) hx hb dJ13_compare_74951_13 (by decide) (fun q6 => ?_) (fun q6 => ?_)
  · replace hv := fnN hv q6
    have l7 := lc_ne ey5 q6
    refine lv_iconst (v := 1) hx hb dJ13_compare_74951_20 (by decide) ?_
    exact L_21 _ _ _ 1 hH hv (Rg_w (Rg_c (x := 1) (a := (1)) (b := (1)) (by decide)) (by decide)) (lv_sub hl [] rfl)
  replace hv := fnP hv q6
  have l8 := lc_eq ey5 q6
  have r9 : Rg y5 (0) (0) := Rg_both (Rg_any y5) (Rg_eqv q6 (Rg_c (x := 0) (a := (0)) (b := (0)) (by decide))) (by decide)
  refine lv_iconst (v := 0) hx hb dJ13_compare_74951_16 (by decide) ?_
  refine lv_goto (tgt := 21) hx hb dJ13_compare_74951_17 (by decide) ?_
  exact L_21 _ _ _ 0 hH hv (Rg_w (Rg_c (x := 0) (a := (0)) (b := (0)) (by decide)) (by decide)) (lv_sub hl [] rfl)
noncomputable def F_J13_compareUnsigned_74951 (x1 : Int64) (x2 : Int64) : Int32 :=
  nm (x1 + (-9223372036854775808 : Int64)) fun w1 => nm (x2 + (-9223372036854775808 : Int64)) fun w2 => nm (F_J13_compare_74951 w1 w2) fun y3 => y3
set_option maxHeartbeats 4000000 in
set_option maxRecDepth 100000 in
theorem c_J13_compareUnsigned_74951 {l : Launch} {D : va_G} {cy : Nat → ClassId} {L : List Nat} {C : Nat → Nat} {b0 : Nat} {I : hI} {J : hJ} {R : hR} {x1 : Int64} {x2 : Int64}  : CI l yJ13_compareUnsigned_74951 cJ13_compareUnsigned_74951 4 .int 1 D cy L C b0 [.long x1, .long x2] (I, J, R) (fun r v => v.1 = I ∧ v.2.1 = J ∧ v.2.2 = R ∧ Rg r (-1) (1) ∧ F_J13_compareUnsigned_74951 x1 x2 = r) := by
  refine CI.mkI (by decide +kernel) (Nat.le_of_ble_eq_true rfl) ?_
  intro p e s m args below meth c ls Q hF ret hH hl
  obtain ⟨hx, hb, -, hml, hown, hts, -⟩ := hF
  have hl : lv_has ls 4 [(0, .long x1), (2, .long x2)] := hl
  have hH : Hp D cy L C b0 s s.heap I J R s.heap [] := hH
  obtain ⟨TT0, hT⟩ : ∃ TT0, TT0 = F_J13_compareUnsigned_74951 x1 x2 := ⟨_, rfl⟩
  have hv := hT
  unfold F_J13_compareUnsigned_74951 at hv
  refine lv_lload_n hx hb dJ13_compareUnsigned_74951_0 rfl (lv_at hl 0 rfl) ?_
  refine lv_ldc2 (v := (-9223372036854775808)) hx hb hown (hts _ kkl_J13_168) dJ13_compareUnsigned_74951_1 ?_
  refine lv_ladd hx hb dJ13_compareUnsigned_74951_4 ?_
  refine lv_topl (fun w1 ew1 => ?_)
  replace hv := fnS hv ew1
  refine lv_lload_n hx hb dJ13_compareUnsigned_74951_5 rfl (lv_at hl 1 rfl) ?_
  refine lv_ldc2 (v := (-9223372036854775808)) hx hb hown (hts _ kkl_J13_168) dJ13_compareUnsigned_74951_6 ?_
  refine lv_ladd hx hb dJ13_compareUnsigned_74951_9 ?_
  refine lv_topl (fun w2 ew2 => ?_)
  replace hv := fnS hv ew2
  refine ca_J13_302 hx hb hml hown hts hH (c_J13_compare_74951 ) hl.1 (by decide) (Nat.le_of_ble_eq_true rfl) ⟨Nat.zero_le _, Nat.zero_le _⟩ dJ13_compareUnsigned_74951_10 (fun y3 I3 J3 R3 H locs hp hH => ?_)
  obtain ⟨eI3, eJ3, eR3, ry3, hf3⟩ := hp
  obtain rfl : I = I3 := eI3.symm
  obtain rfl : J = J3 := eJ3.symm
  obtain rfl : R = R3 := eR3.symm
  replace hv := fnS hv hf3.symm
  exact ret (y3) _ _ _ _ _ _ _ dJ13_compareUnsigned_74951_13 hH ⟨rfl, rfl, rfl, ry3, (hT.symm.trans hv)⟩
noncomputable def F_J9_multiplyHigh_f86c9 (x1 : Int64) (x2 : Int64) : Int64 :=
  nm (x1 >>> (Int32.toInt64 (32 : Int32) &&& 63)) fun w1 => nm (x1 &&& (4294967295 : Int64)) fun w2 => nm (x2 >>> (Int32.toInt64 (32 : Int32) &&& 63)) fun w3 => nm (x2 &&& (4294967295 : Int64)) fun w4 => nm (w2 * w4) fun w5 => nm (w1 * w4) fun w6 => nm ((Int64.toUInt64 w5 >>> ((Int32.toInt64 (32 : Int32)).toUInt64 &&& Int64.toUInt64 63)).toInt64) fun w7 => nm (w6 + w7) fun w8 => nm (w8 &&& (4294967295 : Int64)) fun w9 => nm (w8 >>> (Int32.toInt64 (32 : Int32) &&& 63)) fun w10 => nm (w2 * w3) fun w11 => nm (w9 + w11) fun w12 => nm (w1 * w3) fun w13 => nm (w13 + w10) fun w14 => nm (w12 >>> (Int32.toInt64 (32 : Int32) &&& 63)) fun w15 => nm (w14 + w15) fun w16 => w16
set_option maxHeartbeats 4000000 in
set_option maxRecDepth 100000 in
theorem c_J9_multiplyHigh_f86c9 {l : Launch} {D : va_G} {cy : Nat → ClassId} {L : List Nat} {C : Nat → Nat} {b0 : Nat} {I : hI} {J : hJ} {R : hR} {x1 : Int64} {x2 : Int64}  : CJ l yJ9_multiplyHigh_f86c9 cJ9_multiplyHigh_f86c9 20 0 D cy L C b0 [.long x1, .long x2] (I, J, R) (fun r v => v.1 = I ∧ v.2.1 = J ∧ v.2.2 = R ∧ F_J9_multiplyHigh_f86c9 x1 x2 = r) := by
  refine CJ.mk (by decide +kernel) (Nat.le_of_ble_eq_true rfl) ?_
  intro p e s m args below meth c ls Q hF ret hH hl
  obtain ⟨hx, hb, -, hml, hown, hts, -⟩ := hF
  have hl : lv_has ls 20 [(0, .long x1), (2, .long x2)] := hl
  have hH : Hp D cy L C b0 s s.heap I J R s.heap [] := hH
  obtain ⟨TT0, hT⟩ : ∃ TT0, TT0 = F_J9_multiplyHigh_f86c9 x1 x2 := ⟨_, rfl⟩
  have hv := hT
  unfold F_J9_multiplyHigh_f86c9 at hv
  refine lv_lload_n hx hb dJ9_multiplyHigh_f86c9_0 rfl (lv_at hl 0 rfl) ?_
  refine lv_bipush (v := 32) hx hb dJ9_multiplyHigh_f86c9_1 (by decide) ?_
  refine lv_lshr hx hb dJ9_multiplyHigh_f86c9_3 rfl ?_
  refine lv_topl (fun w1 ew1 => ?_)
  replace hv := fnS hv ew1
  refine lv_lstore (lv' := [(4, .long w1), (0, .long x1), (2, .long x2)]) hx hb dJ9_multiplyHigh_f86c9_4 hl (by decide) rfl (fun ls hl => ?_)
  refine lv_lload_n hx hb dJ9_multiplyHigh_f86c9_6 rfl (lv_at hl 1 rfl) ?_
  refine lv_ldc2 (v := 4294967295) hx hb hown (hts _ kkl_J9_138) dJ9_multiplyHigh_f86c9_7 ?_
  refine lv_land hx hb dJ9_multiplyHigh_f86c9_10 ?_
  refine lv_topl (fun w2 ew2 => ?_)
  replace hv := fnS hv ew2
  refine lv_lstore (lv' := [(6, .long w2), (4, .long w1), (0, .long x1), (2, .long x2)]) hx hb dJ9_multiplyHigh_f86c9_11 hl (by decide) rfl (fun ls hl => ?_)
  refine lv_lload_n hx hb dJ9_multiplyHigh_f86c9_13 rfl (lv_at hl 3 rfl) ?_
  refine lv_bipush (v := 32) hx hb dJ9_multiplyHigh_f86c9_14 (by decide) ?_
  refine lv_lshr hx hb dJ9_multiplyHigh_f86c9_16 rfl ?_
  refine lv_topl (fun w3 ew3 => ?_)
  replace hv := fnS hv ew3
  refine lv_lstore (lv' := [(8, .long w3), (6, .long w2), (4, .long w1), (0, .long x1), (2, .long x2)]) hx hb dJ9_multiplyHigh_f86c9_17 hl (by decide) rfl (fun ls hl => ?_)
  refine lv_lload_n hx hb dJ9_multiplyHigh_f86c9_19 rfl (lv_at hl 4 rfl) ?_
  refine lv_ldc2 (v := 4294967295) hx hb hown (hts _ kkl_J9_138) dJ9_multiplyHigh_f86c9_20 ?_
  refine lv_land hx hb dJ9_multiplyHigh_f86c9_23 ?_
  refine lv_topl (fun w4 ew4 => ?_)
  replace hv := fnS hv ew4
  refine lv_lstore (lv' := [(10, .long w4), (8, .long w3), (6, .long w2), (4, .long w1), (0, .long x1), (2, .long x2)]) hx hb dJ9_multiplyHigh_f86c9_24 hl (by decide) rfl (fun ls hl => ?_)
  refine lv_lload hx hb dJ9_multiplyHigh_f86c9_26 (lv_at hl 2 rfl) ?_
  refine lv_lload hx hb dJ9_multiplyHigh_f86c9_28 (lv_at hl 0 rfl) ?_
  refine lv_lmul hx hb dJ9_multiplyHigh_f86c9_30 ?_
  refine lv_topl (fun w5 ew5 => ?_)
  replace hv := fnS hv ew5
  refine lv_lstore (lv' := [(12, .long w5), (10, .long w4), (8, .long w3), (6, .long w2), (4, .long w1), (0, .long x1), (2, .long x2)]) hx hb dJ9_multiplyHigh_f86c9_31 hl (by decide) rfl (fun ls hl => ?_)
  refine lv_lload hx hb dJ9_multiplyHigh_f86c9_33 (lv_at hl 4 rfl) ?_
  refine lv_lload hx hb dJ9_multiplyHigh_f86c9_35 (lv_at hl 1 rfl) ?_
  refine lv_lmul hx hb dJ9_multiplyHigh_f86c9_37 ?_
  refine lv_topl (fun w6 ew6 => ?_)
  replace hv := fnS hv ew6
  refine lv_lload hx hb dJ9_multiplyHigh_f86c9_38 (lv_at hl 0 rfl) ?_
  refine lv_bipush (v := 32) hx hb dJ9_multiplyHigh_f86c9_40 (by decide) ?_
  refine lv_lushr hx hb dJ9_multiplyHigh_f86c9_42 rfl ?_
  refine lv_topl (fun w7 ew7 => ?_)
  replace hv := fnS hv ew7
  refine lv_ladd hx hb dJ9_multiplyHigh_f86c9_43 ?_
  refine lv_topl (fun w8 ew8 => ?_)
  replace hv := fnS hv ew8
  refine lv_lstore (lv' := [(14, .long w8), (12, .long w5), (10, .long w4), (8, .long w3), (6, .long w2), (4, .long w1), (0, .long x1), (2, .long x2)]) hx hb dJ9_multiplyHigh_f86c9_44 hl (by decide) rfl (fun ls hl => ?_)
  refine lv_lload hx hb dJ9_multiplyHigh_f86c9_46 (lv_at hl 0 rfl) ?_
  refine lv_ldc2 (v := 4294967295) hx hb hown (hts _ kkl_J9_138) dJ9_multiplyHigh_f86c9_48 ?_
  refine lv_land hx hb dJ9_multiplyHigh_f86c9_51 ?_
  refine lv_topl (fun w9 ew9 => ?_)
  replace hv := fnS hv ew9
  refine lv_lstore (lv' := [(16, .long w9), (14, .long w8), (12, .long w5), (10, .long w4), (8, .long w3), (6, .long w2), (4, .long w1), (0, .long x1), (2, .long x2)]) hx hb dJ9_multiplyHigh_f86c9_52 hl (by decide) rfl (fun ls hl => ?_)
  refine lv_lload hx hb dJ9_multiplyHigh_f86c9_54 (lv_at hl 1 rfl) ?_
  refine lv_bipush (v := 32) hx hb dJ9_multiplyHigh_f86c9_56 (by decide) ?_
  refine lv_lshr hx hb dJ9_multiplyHigh_f86c9_58 rfl ?_
  refine lv_topl (fun w10 ew10 => ?_)
  replace hv := fnS hv ew10
  refine lv_lstore (lv' := [(18, .long w10), (16, .long w9), (14, .long w8), (12, .long w5), (10, .long w4), (8, .long w3), (6, .long w2), (4, .long w1), (0, .long x1), (2, .long x2)]) hx hb dJ9_multiplyHigh_f86c9_59 hl (by decide) rfl (fun ls hl => ?_)
  refine lv_lload hx hb dJ9_multiplyHigh_f86c9_61 (lv_at hl 1 rfl) ?_
  refine lv_lload hx hb dJ9_multiplyHigh_f86c9_63 (lv_at hl 6 rfl) ?_
  refine lv_lload hx hb dJ9_multiplyHigh_f86c9_65 (lv_at hl 5 rfl) ?_
  refine lv_lmul hx hb dJ9_multiplyHigh_f86c9_67 ?_
  refine lv_topl (fun w11 ew11 => ?_)
  replace hv := fnS hv ew11
  refine lv_ladd hx hb dJ9_multiplyHigh_f86c9_68 ?_
  refine lv_topl (fun w12 ew12 => ?_)
  replace hv := fnS hv ew12
  refine lv_lstore (lv' := [(16, .long w12), (18, .long w10), (14, .long w8), (12, .long w5), (10, .long w4), (8, .long w3), (6, .long w2), (4, .long w1), (0, .long x1), (2, .long x2)]) hx hb dJ9_multiplyHigh_f86c9_69 hl (by decide) rfl (fun ls hl => ?_)
  refine lv_lload hx hb dJ9_multiplyHigh_f86c9_71 (lv_at hl 7 rfl) ?_
  refine lv_lload hx hb dJ9_multiplyHigh_f86c9_73 (lv_at hl 5 rfl) ?_
  refine lv_lmul hx hb dJ9_multiplyHigh_f86c9_75 ?_
  refine lv_topl (fun w13 ew13 => ?_)
  replace hv := fnS hv ew13
  refine lv_lload hx hb dJ9_multiplyHigh_f86c9_76 (lv_at hl 1 rfl) ?_
  refine lv_ladd hx hb dJ9_multiplyHigh_f86c9_78 ?_
  refine lv_topl (fun w14 ew14 => ?_)
  replace hv := fnS hv ew14
  refine lv_lload hx hb dJ9_multiplyHigh_f86c9_79 (lv_at hl 0 rfl) ?_
  refine lv_bipush (v := 32) hx hb dJ9_multiplyHigh_f86c9_81 (by decide) ?_
  refine lv_lshr hx hb dJ9_multiplyHigh_f86c9_83 rfl ?_
  refine lv_topl (fun w15 ew15 => ?_)
  replace hv := fnS hv ew15
  refine lv_ladd hx hb dJ9_multiplyHigh_f86c9_84 ?_
  refine lv_topl (fun w16 ew16 => ?_)
  replace hv := fnS hv ew16
  exact ret (w16) _ _ _ _ _ _ _ dJ9_multiplyHigh_f86c9_85 hH ⟨rfl, rfl, rfl, (hT.symm.trans hv)⟩
noncomputable def F_X11_apply_157 (a0 : Nat) (x1 : Int32) (x2 : Int64) (I : hI) (J_157 : hJ) (R : hR) (xs0_157 : Int32) : Int32 × hU :=
  (xs0_157, (I, J_157, R))
noncomputable def F_X11_apply_156 (a0 : Nat) (x1 : Int32) (x2 : Int64) (I : hI) (J_156 : hJ) (R : hR) : Int32 × hU :=
  F_X11_apply_157 a0 x1 x2 I J_156 R (0 : Int32)
noncomputable def F_X11_apply_118 (a0 : Nat) (x1 : Int32) (x2 : Int64) (I : hI) (J_118 : hJ) (R : hR) (xs0_118 : Int64) (xs1_118 : Int64) (x12_118 : Int64) : Int32 × hU :=
  nm (xs1_118 + xs0_118) fun w1 => nm (u2 J_118 a0 31 x12_118) fun J2 => nm (x12_118 >>> (Int32.toInt64 (63 : Int32) &&& 63)) fun w3 => nm (lg_cmp w1 w3) fun y4 => (if y4 = (0 : Int32) then nm ((R a0 3).getD 0) fun b9 => nm (I b9 (Int32.toNatClampNeg x1)) fun y10 => nm (F_X11_isOf y10 x12_118) fun y11 => (if y11 = (0 : Int32) then F_X11_apply_156 a0 x1 x2 I J2 R else F_X11_apply_157 a0 x1 x2 I J2 R (1 : Int32)) else F_X11_apply_156 a0 x1 x2 I J2 R)
noncomputable def F_X11_apply_59 (a0 : Nat) (x1 : Int32) (x2 : Int64) (I : hI) (J_59 : hJ) (R : hR) (xs0_59 : Int64) : Int32 × hU :=
  nm ((R a0 6).getD 0) fun b15 => nm (I b15 (Int32.toNatClampNeg x1)) fun y16 => nm (F_J9_multiplyHigh_f86c9 x2 xs0_59) fun w17 => nm (x2 * xs0_59) fun w18 => nm (w18 + (y16.toInt64)) fun w19 => nm ((y16.toInt64) >>> (Int32.toInt64 (63 : Int32) &&& 63)) fun w20 => nm (w17 + w20) fun w21 => nm (F_J13_compareUnsigned_74951 w19 w18) fun y22 => (if (0 : Int32) ≤ y22 then F_X11_apply_118 a0 x1 x2 I J_59 R (0 : Int64) w21 w19 else F_X11_apply_118 a0 x1 x2 I J_59 R (1 : Int64) w21 w19)
noncomputable def F_X11_apply_18 (a0 : Nat) (x1 : Int32) (x2 : Int64) (I : hI) (J_18 : hJ) (R : hR) (xs0_18 : Int64) : Int32 × hU :=
  nm (u2 J_18 a0 31 xs0_18) fun J26 => ((1 : Int32), (I, J26, R))
noncomputable def F_X11_apply (a0 : Nat) (x1 : Int32) (x2 : Int64) (I : hI) (J : hJ) (R : hR) : Int32 × hU :=
  (if x1 = (7 : Int32) then nm (lg_cmp x2 (0 : Int64)) fun y37 => (if y37 = (0 : Int32) then F_X11_apply_18 a0 x1 x2 I J R (0 : Int64) else F_X11_apply_18 a0 x1 x2 I J R (1 : Int64)) else (if x1 = (9 : Int32) then nm (x2 / (10 : Int64)) fun w34 => nm (u2 J a0 31 w34) fun J35 => ((1 : Int32), (I, J35, R)) else (if x1 = (8 : Int32) then F_X11_apply_59 a0 x1 x2 I J R (10 : Int64) else nm ((R a0 5).getD 0) fun b30 => nm (I b30 (Int32.toNatClampNeg x1)) fun y31 => F_X11_apply_59 a0 x1 x2 I J R (y31.toInt64))))
def ms_X11_apply : List Nat := [735]
set_option maxHeartbeats 4000000 in
set_option maxRecDepth 100000 in
theorem c_X11_apply {l : Launch} {D : va_G} {cy : Nat → ClassId} {L : List Nat} {C : Nat → Nat} {b0 : Nat} {I : hI} {J : hJ} {R : hR} {a0 : Nat} {x1 : Int32} {x2 : Int64} (oI : OkI L C I) (oR : OkR L C R) (m0 : a0 ∈ L) (k0 : C a0 = 11) (h1 : Rg x1 (0) (31)) : CI l yX11_apply cX11_apply 14 .boolean 2 D cy L C b0 [.ref a0, .int x1, .long x2] (I, J, R) (fun r v => Ps L C ms_X11_apply (I, J, R) v ∧ v.1 = I ∧ v.2.2 = R ∧ Rg r (0) (1) ∧ F_X11_apply a0 x1 x2 I J R = (r, v)) := by
  refine CI.mkZ (plainFor_of_name (by decide)) (Nat.le_of_ble_eq_true rfl) ?_
  intro p e s m args below meth c ls Q hF ret hH hl
  obtain ⟨hx, hb, -, hml, hown, hts, -⟩ := hF
  have hl : lv_has ls 14 [(0, .ref a0), (1, .int x1), (2, .long x2)] := hl
  have hH : Hp D cy L C b0 s s.heap I J R s.heap [] := hH
  have sm : Sm C ms_X11_apply (I, J, R) (I, J, R) := Sm.rf
  obtain ⟨TT0, hT⟩ : ∃ TT0, TT0 = F_X11_apply a0 x1 x2 I J R := ⟨_, rfl⟩
  have hv := hT
  unfold F_X11_apply at hv
  refine lv_iload_n hx hb dX11_apply_0 rfl (lv_at hl 1 rfl) ?_
  refine lv_bipush (v := 7) hx hb dX11_apply_1 (by decide) ?_
  have L_157 : ∀ (J_157 : hJ) (H : Heap) (locs : List Loc) (ls : Array Slot) (xs0_157 : Int32), Hp D cy L C b0 s s.heap I J_157 R H locs → TT0 = F_X11_apply_157 a0 x1 x2 I J_157 R xs0_157 → Sm C ms_X11_apply (I, J, R) (I, J_157, R) → Rg xs0_157 (0) (1) → lv_has ls 14 [] → W p l e (rmD 2) s m args below meth c H locs 0 0 Q (F0 m 157 ls [.int xs0_157]) := by
    intro J_157 H locs ls xs0_157 hH hv sm rs0_157 hl
    unfold F_X11_apply_157 at hv
    exact ret (xs0_157) _ _ _ _ _ _ _ dX11_apply_157 hH (Rg_01 (Rg_w rs0_157 (by decide))) ⟨⟨oI, oR, sm⟩, rfl, rfl, rs0_157, (hT.symm.trans hv)⟩
  have L_156 : ∀ (J_156 : hJ) (H : Heap) (locs : List Loc) (ls : Array Slot), Hp D cy L C b0 s s.heap I J_156 R H locs → TT0 = F_X11_apply_156 a0 x1 x2 I J_156 R → Sm C ms_X11_apply (I, J, R) (I, J_156, R) → lv_has ls 14 [] → W p l e (rmD 2) s m args below meth c H locs 0 0 Q (F0 m 156 ls []) := by
    intro J_156 H locs ls hH hv sm hl
    unfold F_X11_apply_156 at hv
    refine lv_iconst (v := 0) hx hb dX11_apply_156 (by decide) ?_
    exact L_157 J_156 _ _ _ 0 hH hv sm (Rg_w (Rg_c (x := 0) (a := (0)) (b := (0)) (by decide)) (by decide)) (lv_sub hl [] rfl)
  have L_118 : ∀ (J_118 : hJ) (H : Heap) (locs : List Loc) (ls : Array Slot) (xs0_118 : Int64) (xs1_118 : Int64) (x12_118 : Int64), Hp D cy L C b0 s s.heap I J_118 R H locs → TT0 = F_X11_apply_118 a0 x1 x2 I J_118 R xs0_118 xs1_118 x12_118 → Sm C ms_X11_apply (I, J, R) (I, J_118, R) → Rg x1 (0) (31) → lv_has ls 14 [(0, .ref a0), (1, .int x1), (12, .long x12_118)] → W p l e (rmD 2) s m args below meth c H locs 0 0 Q (F0 m 118 ls [.long xs0_118, .long xs1_118]) := by
    intro J_118 H locs ls xs0_118 xs1_118 x12_118 hH hv sm r1_118 hl
    unfold F_X11_apply_118 at hv
    refine lv_ladd hx hb dX11_apply_118 ?_
    refine lv_topl (fun w1 ew1 => ?_)
    replace hv := fnS hv ew1
    refine lv_lstore (lv' := [(8, .long w1), (0, .ref a0), (1, .int x1), (12, .long x12_118)]) hx hb dX11_apply_119 hl (by decide) rfl (fun ls hl => ?_)
    refine lv_aload_n hx hb dX11_apply_121 rfl (lv_at hl 1 rfl) ?_
    refine lv_lload hx hb dX11_apply_122 (lv_at hl 3 rfl) ?_
    refine pf_11_31 hx hb hts hown hH m0 k0 rfl kf_X11_158 dX11_apply_124 (fun J2 H locs eJ2 hH => ?_)
    replace hv := fnS hv eJ2
    have sm : Sm C ms_X11_apply (I, J, R) (I, J2, R) := by rw [eJ2]; exact sm.stJ k0 (mC_obj (by decide) rfl)
    refine lv_lload hx hb dX11_apply_127 (lv_at hl 0 rfl) ?_
    refine lv_lload hx hb dX11_apply_129 (lv_at hl 3 rfl) ?_
    refine lv_bipush (v := 63) hx hb dX11_apply_131 (by decide) ?_
    refine lv_lshr hx hb dX11_apply_133 rfl ?_
    refine lv_topl (fun w3 ew3 => ?_)
    replace hv := fnS hv ew3
    refine W.lcmp hx hb dX11_apply_134 ?_
    refine lv_topi (fun y4 ey4 => ?_)
    replace hv := fnS hv ey4
    refine lv_if_ne (tgt := 156) hx hb dX11_apply_135 (by decide) (fun q5 => ?_) (fun q5 => ?_)
    · replace hv := fnN hv q5
      have l6 := lc_ne ey4 q5
      exact L_156 J2 _ _ _ hH hv sm (lv_sub hl [] rfl)
    replace hv := fnP hv q5
    have l7 := lc_eq ey4 q5
    have r8 : Rg y4 (0) (0) := Rg_both (Rg_any y4) (Rg_eqv q5 (Rg_c (x := 0) (a := (0)) (b := (0)) (by decide))) (by decide)
    refine lv_aload_n hx hb dX11_apply_138 rfl (lv_at hl 1 rfl) ?_
    obtain ⟨b9, mb9, vb9, kb9⟩ := rf_11_3 oR m0 k0
    replace hv := fnR hv vb9
    refine gf_11_3 vb9 hx hb hts hown hH m0 k0 rfl kf_X11_13 dX11_apply_139 ?_
    refine lv_iload_n hx hb dX11_apply_142 rfl (lv_at hl 2 rfl) ?_
    refine ld_65 hx hb hH mb9 kb9 (Rg_in r1_118 (by decide)) dX11_apply_143 ?_
    refine lv_topi (fun y10 ey10 => ?_)
    have ry10 : Rg y10 (0) (6) := by rw [ey10]; exact rd_65 oI mb9 kb9 (Rg_in r1_118 (by decide))
    replace hv := fnS hv ey10
    refine lv_lload hx hb dX11_apply_144 (lv_at hl 3 rfl) ?_
    refine ca_X11_176 hx hb hml hown hts hH (c_X11_isOf ry10) hl.1 (by decide) (Nat.le_of_ble_eq_true rfl) ⟨Nat.zero_le _, Nat.zero_le _⟩ dX11_apply_146 (fun y11 I11 J11 R11 H locs hp hH => ?_)
    obtain ⟨eI11, eJ11, eR11, ry11, hp11, hf11⟩ := hp
    obtain rfl : I = I11 := eI11.symm
    obtain rfl : J2 = J11 := eJ11.symm
    obtain rfl : R = R11 := eR11.symm
    replace hv := fnS hv hf11.symm
    refine lv_if_eq (tgt := 156) hx hb dX11_apply_149 (by decide) (fun q12 => ?_) (fun q12 => ?_)
    · replace hv := fnP hv q12
      have r13 : Rg y11 (0) (0) := Rg_both ry11 (Rg_eqv q12 (Rg_c (x := 0) (a := (0)) (b := (0)) (by decide))) (by decide)
      exact L_156 J2 _ _ _ hH hv sm (lv_sub hl [] rfl)
    replace hv := fnN hv q12
    have r14 : Rg y11 (1) (1) := Rg_nelo ry11 (Rg_ne q12) (Rg_c (x := 0) (a := (0)) (b := (0)) (by decide)) (by decide)
    refine lv_iconst (v := 1) hx hb dX11_apply_152 (by decide) ?_
    refine lv_goto (tgt := 157) hx hb dX11_apply_153 (by decide) ?_
    exact L_157 J2 _ _ _ 1 hH hv sm (Rg_w (Rg_c (x := 1) (a := (1)) (b := (1)) (by decide)) (by decide)) (lv_sub hl [] rfl)
  have L_59 : ∀ (J_59 : hJ) (H : Heap) (locs : List Loc) (ls : Array Slot) (xs0_59 : Int64), Hp D cy L C b0 s s.heap I J_59 R H locs → TT0 = F_X11_apply_59 a0 x1 x2 I J_59 R xs0_59 → Sm C ms_X11_apply (I, J, R) (I, J_59, R) → Rg x1 (0) (31) → lv_has ls 14 [(0, .ref a0), (1, .int x1), (2, .long x2)] → W p l e (rmD 2) s m args below meth c H locs 0 0 Q (F0 m 59 ls [.long xs0_59]) := by
    intro J_59 H locs ls xs0_59 hH hv sm r1_59 hl
    unfold F_X11_apply_59 at hv
    refine lv_lstore (lv' := [(4, .long xs0_59), (0, .ref a0), (1, .int x1), (2, .long x2)]) hx hb dX11_apply_59 hl (by decide) rfl (fun ls hl => ?_)
    refine lv_aload_n hx hb dX11_apply_61 rfl (lv_at hl 1 rfl) ?_
    obtain ⟨b15, mb15, vb15, kb15⟩ := rf_11_6 oR m0 k0
    replace hv := fnR hv vb15
    refine gf_11_6 vb15 hx hb hts hown hH m0 k0 rfl kf_X11_22 dX11_apply_62 ?_
    refine lv_iload_n hx hb dX11_apply_65 rfl (lv_at hl 2 rfl) ?_
    refine ld_68 hx hb hH mb15 kb15 (Rg_in r1_59 (by decide)) dX11_apply_66 ?_
    refine lv_topi (fun y16 ey16 => ?_)
    have ry16 : Rg y16 (-1000) (1000) := by rw [ey16]; exact rd_68 oI mb15 kb15 (Rg_in r1_59 (by decide))
    replace hv := fnS hv ey16
    refine lv_i2l (v := y16.toInt64) hx hb dX11_apply_67 rfl ?_
    refine lv_lstore (lv' := [(6, .long (y16.toInt64)), (4, .long xs0_59), (0, .ref a0), (1, .int x1), (2, .long x2)]) hx hb dX11_apply_68 hl (by decide) rfl (fun ls hl => ?_)
    refine lv_lload_n hx hb dX11_apply_70 rfl (lv_at hl 4 rfl) ?_
    refine lv_lload hx hb dX11_apply_71 (lv_at hl 1 rfl) ?_
    refine ca_X11_164 hx hb hml hown hts hH (c_J9_multiplyHigh_f86c9 ) hl.1 (by decide) (Nat.le_of_ble_eq_true rfl) ⟨Nat.zero_le _, Nat.zero_le _⟩ dX11_apply_73 (fun w17 I17 J17 R17 H locs hp hH => ?_)
    obtain ⟨eI17, eJ17, eR17, hf17⟩ := hp
    obtain rfl : I = I17 := eI17.symm
    obtain rfl : J_59 = J17 := eJ17.symm
    obtain rfl : R = R17 := eR17.symm
    replace hv := fnS hv hf17.symm
    refine lv_lstore (lv' := [(8, .long w17), (6, .long (y16.toInt64)), (4, .long xs0_59), (0, .ref a0), (1, .int x1), (2, .long x2)]) hx hb dX11_apply_76 hl (by decide) rfl (fun ls hl => ?_)
    refine lv_lload_n hx hb dX11_apply_78 rfl (lv_at hl 5 rfl) ?_
    refine lv_lload hx hb dX11_apply_79 (lv_at hl 2 rfl) ?_
    refine lv_lmul hx hb dX11_apply_81 ?_
    refine lv_topl (fun w18 ew18 => ?_)
    replace hv := fnS hv ew18
    refine lv_lstore (lv' := [(10, .long w18), (8, .long w17), (6, .long (y16.toInt64)), (4, .long xs0_59), (0, .ref a0), (1, .int x1), (2, .long x2)]) hx hb dX11_apply_82 hl (by decide) rfl (fun ls hl => ?_)
    refine lv_lload hx hb dX11_apply_84 (lv_at hl 0 rfl) ?_
    refine lv_lload hx hb dX11_apply_86 (lv_at hl 2 rfl) ?_
    refine lv_ladd hx hb dX11_apply_88 ?_
    refine lv_topl (fun w19 ew19 => ?_)
    replace hv := fnS hv ew19
    refine lv_lstore (lv' := [(12, .long w19), (10, .long w18), (8, .long w17), (6, .long (y16.toInt64)), (4, .long xs0_59), (0, .ref a0), (1, .int x1), (2, .long x2)]) hx hb dX11_apply_89 hl (by decide) rfl (fun ls hl => ?_)
    refine lv_lload hx hb dX11_apply_91 (lv_at hl 2 rfl) ?_
    refine lv_lload hx hb dX11_apply_93 (lv_at hl 3 rfl) ?_
    refine lv_bipush (v := 63) hx hb dX11_apply_95 (by decide) ?_
    refine lv_lshr hx hb dX11_apply_97 rfl ?_
    refine lv_topl (fun w20 ew20 => ?_)
    replace hv := fnS hv ew20
    refine lv_ladd hx hb dX11_apply_98 ?_
    refine lv_topl (fun w21 ew21 => ?_)
    replace hv := fnS hv ew21
    refine lv_lstore (lv' := [(8, .long w21), (12, .long w19), (10, .long w18), (6, .long (y16.toInt64)), (4, .long xs0_59), (0, .ref a0), (1, .int x1), (2, .long x2)]) hx hb dX11_apply_99 hl (by decide) rfl (fun ls hl => ?_)
    refine lv_lload hx hb dX11_apply_101 (lv_at hl 0 rfl) ?_
    refine lv_lload hx hb dX11_apply_103 (lv_at hl 1 rfl) ?_
    refine lv_lload hx hb dX11_apply_105 (lv_at hl 2 rfl) ?_
    refine ca_X11_170 hx hb hml hown hts hH (c_J13_compareUnsigned_74951 ) hl.1 (by decide) (Nat.le_of_ble_eq_true rfl) ⟨Nat.zero_le _, Nat.zero_le _⟩ dX11_apply_107 (fun y22 I22 J22 R22 H locs hp hH => ?_)
    obtain ⟨eI22, eJ22, eR22, ry22, hf22⟩ := hp
    obtain rfl : I = I22 := eI22.symm
    obtain rfl : J_59 = J22 := eJ22.symm
    obtain rfl : R = R22 := eR22.symm
    replace hv := fnS hv hf22.symm
    refine lv_if_ge (tgt := 117) hx hb dX11_apply_110 (by decide) (fun q23 => ?_) (fun q23 => ?_)
    · replace hv := fnP hv q23
      have r24 : Rg y22 (0) (1) := Rg_lle ry22 (Rg_le q23) (Rg_c (x := 0) (a := (0)) (b := (0)) (by decide)) (by decide)
      refine lv_lconst (v := 0) hx hb dX11_apply_117 (by decide) ?_
      exact L_118 J_59 _ _ _ 0 w21 w19 hH hv sm r1_59 (lv_sub hl [5, 6, 1] rfl)
    replace hv := fnN hv q23
    have r25 : Rg y22 (-1) (-1) := Rg_ult ry22 (Rg_nle q23) (Rg_c (x := 0) (a := (0)) (b := (0)) (by decide)) (by decide)
    refine lv_lconst (v := 1) hx hb dX11_apply_113 (by decide) ?_
    refine lv_goto (tgt := 118) hx hb dX11_apply_114 (by decide) ?_
    exact L_118 J_59 _ _ _ 1 w21 w19 hH hv sm r1_59 (lv_sub hl [5, 6, 1] rfl)
  have L_18 : ∀ (J_18 : hJ) (H : Heap) (locs : List Loc) (ls : Array Slot) (xs0_18 : Int64), Hp D cy L C b0 s s.heap I J_18 R H locs → TT0 = F_X11_apply_18 a0 x1 x2 I J_18 R xs0_18 → Sm C ms_X11_apply (I, J, R) (I, J_18, R) → lv_has ls 14 [] → W p l e (rmD 2) s m args below meth c H locs 0 0 Q (F0 m 18 ls [.long xs0_18, .ref a0]) := by
    intro J_18 H locs ls xs0_18 hH hv sm hl
    unfold F_X11_apply_18 at hv
    refine pf_11_31 hx hb hts hown hH m0 k0 rfl kf_X11_158 dX11_apply_18 (fun J26 H locs eJ26 hH => ?_)
    replace hv := fnS hv eJ26
    have sm : Sm C ms_X11_apply (I, J, R) (I, J26, R) := by rw [eJ26]; exact sm.stJ k0 (mC_obj (by decide) rfl)
    refine lv_iconst (v := 1) hx hb dX11_apply_21 (by decide) ?_
    exact ret (1) _ _ _ _ _ _ _ dX11_apply_22 hH (Rg_01 (Rg_w (Rg_c (x := 1) (a := (1)) (b := (1)) (by decide)) (by decide))) ⟨⟨oI, oR, sm⟩, rfl, rfl, (Rg_w (Rg_c (x := 1) (a := (1)) (b := (1)) (by decide)) (by decide)), (hT.symm.trans hv)⟩
  refine lv_icmp_ne (tgt := 23) hx hb dX11_apply_3 (by decide) (fun q27 => ?_) (fun q27 => ?_)
  rotate_left
  · replace hv := fnP hv q27
    have r36 : Rg x1 (7) (7) := Rg_both h1 (Rg_eqv q27 (Rg_c (x := 7) (a := (7)) (b := (7)) (by decide))) (by decide)
    refine lv_aload_n hx hb dX11_apply_6 rfl (lv_at hl 0 rfl) ?_
    refine lv_lload_n hx hb dX11_apply_7 rfl (lv_at hl 2 rfl) ?_
    refine lv_lconst (v := 0) hx hb dX11_apply_8 (by decide) ?_
    refine W.lcmp hx hb dX11_apply_9 ?_
    refine lv_topi (fun y37 ey37 => ?_)
    replace hv := fnS hv ey37
    refine lv_if_ne (tgt := 17) hx hb dX11_apply_10 (by decide) (fun q38 => ?_) (fun q38 => ?_)
    · replace hv := fnN hv q38
      have l39 := lc_ne ey37 q38
      refine lv_lconst (v := 1) hx hb dX11_apply_17 (by decide) ?_
      exact L_18 J _ _ _ 1 hH hv sm (lv_sub hl [] rfl)
    replace hv := fnP hv q38
    have l40 := lc_eq ey37 q38
    have r41 : Rg y37 (0) (0) := Rg_both (Rg_any y37) (Rg_eqv q38 (Rg_c (x := 0) (a := (0)) (b := (0)) (by decide))) (by decide)
    refine lv_lconst (v := 0) hx hb dX11_apply_13 (by decide) ?_
    refine lv_goto (tgt := 18) hx hb dX11_apply_14 (by decide) ?_
    exact L_18 J _ _ _ 0 hH hv sm (lv_sub hl [] rfl)
  replace hv := fnN hv q27
  refine lv_iload_n hx hb dX11_apply_23 rfl (lv_at hl 1 rfl) ?_
  refine lv_bipush (v := 9) hx hb dX11_apply_24 (by decide) ?_
  refine lv_icmp_ne (tgt := 40) hx hb dX11_apply_26 (by decide) (fun q28 => ?_) (fun q28 => ?_)
  rotate_left
  · replace hv := fnP hv q28
    have r33 : Rg x1 (9) (9) := Rg_both h1 (Rg_eqv q28 (Rg_c (x := 9) (a := (9)) (b := (9)) (by decide))) (by decide)
    refine lv_aload_n hx hb dX11_apply_29 rfl (lv_at hl 0 rfl) ?_
    refine lv_lload_n hx hb dX11_apply_30 rfl (lv_at hl 2 rfl) ?_
    refine lv_ldc2 (v := 10) hx hb hown (hts _ kkl_X11_162) dX11_apply_31 ?_
    refine lv_ldiv hx hb dX11_apply_34 (by decide) ?_
    refine lv_topl (fun w34 ew34 => ?_)
    replace hv := fnS hv ew34
    refine pf_11_31 hx hb hts hown hH m0 k0 rfl kf_X11_158 dX11_apply_35 (fun J35 H locs eJ35 hH => ?_)
    replace hv := fnS hv eJ35
    have sm : Sm C ms_X11_apply (I, J, R) (I, J35, R) := by rw [eJ35]; exact sm.stJ k0 (mC_obj (by decide) rfl)
    refine lv_iconst (v := 1) hx hb dX11_apply_38 (by decide) ?_
    exact ret (1) _ _ _ _ _ _ _ dX11_apply_39 hH (Rg_01 (Rg_w (Rg_c (x := 1) (a := (1)) (b := (1)) (by decide)) (by decide))) ⟨⟨oI, oR, sm⟩, rfl, rfl, (Rg_w (Rg_c (x := 1) (a := (1)) (b := (1)) (by decide)) (by decide)), (hT.symm.trans hv)⟩
  replace hv := fnN hv q28
  refine lv_iload_n hx hb dX11_apply_40 rfl (lv_at hl 1 rfl) ?_
  refine lv_bipush (v := 8) hx hb dX11_apply_41 (by decide) ?_
  refine lv_icmp_ne (tgt := 52) hx hb dX11_apply_43 (by decide) (fun q29 => ?_) (fun q29 => ?_)
  rotate_left
  · replace hv := fnP hv q29
    have r32 : Rg x1 (8) (8) := Rg_both h1 (Rg_eqv q29 (Rg_c (x := 8) (a := (8)) (b := (8)) (by decide))) (by decide)
    refine lv_ldc2 (v := 10) hx hb hown (hts _ kkl_X11_162) dX11_apply_46 ?_
    refine lv_goto (tgt := 59) hx hb dX11_apply_49 (by decide) ?_
    exact L_59 J _ _ _ 10 hH hv sm (Rg_w r32 (by decide)) (lv_sub hl [0, 1, 2] rfl)
  replace hv := fnN hv q29
  refine lv_aload_n hx hb dX11_apply_52 rfl (lv_at hl 0 rfl) ?_
  obtain ⟨b30, mb30, vb30, kb30⟩ := rf_11_5 oR m0 k0
  replace hv := fnR hv vb30
  refine gf_11_5 vb30 hx hb hts hown hH m0 k0 rfl kf_X11_19 dX11_apply_53 ?_
  refine lv_iload_n hx hb dX11_apply_56 rfl (lv_at hl 1 rfl) ?_
  refine ld_67 hx hb hH mb30 kb30 (Rg_in h1 (by decide)) dX11_apply_57 ?_
  refine lv_topi (fun y31 ey31 => ?_)
  have ry31 : Rg y31 (-1000) (1000) := by rw [ey31]; exact rd_67 oI mb30 kb30 (Rg_in h1 (by decide))
  replace hv := fnS hv ey31
  refine lv_i2l (v := y31.toInt64) hx hb dX11_apply_58 rfl ?_
  exact L_59 J _ _ _ (y31.toInt64) hH hv sm h1 (lv_sub hl [0, 1, 2] rfl)
noncomputable def B_X11_turningsFrom_351 (a0 : Nat) (x1 : Int32) (x2_257 : Int32) (k_257 : hI → hJ → hR → Int32 → (hU)) (k_351 : hI → hJ → hR → Int32 → Int32 → Int32 → (hU)) (I_351 : hI) (J : hJ) (R : hR) (x3_351 : Int32) (x4_351 : Int32) (x5_351 : Int32) : hU :=
  (if x3_351 ≤ x5_351 then nm (x2_257 + (1 : Int32)) fun y2 => k_257 I_351 J R y2 else nm ((R a0 34).getD 0) fun b5 => nm ((6 : Int32) * x4_351) fun y6 => nm (y6 + x5_351) fun y7 => nm ((R a0 36).getD 0) fun b8 => nm ((7 : Int32) * x3_351) fun y9 => nm (y9 + x2_257) fun y10 => nm ((6 : Int32) * y10) fun y11 => nm (y11 + x5_351) fun y12 => nm (I_351 b8 (Int32.toNatClampNeg y12)) fun y13 => nm (u2 I_351 b5 (Int32.toNatClampNeg y7) y13) fun I14 => nm (x5_351 + (1 : Int32)) fun y15 => k_351 I14 J R x3_351 x4_351 y15)
noncomputable def F_X11_turningsFrom_351 (a0 : Nat) (x1 : Int32) (x2_257 : Int32) (k_257 : hI → hJ → hR → Int32 → (hU)) : Nat → hI → hJ → hR → Int32 → Int32 → Int32 → (hU) := fun n => Nat.rec (motive := fun _ => hI → hJ → hR → Int32 → Int32 → Int32 → (hU)) (fun _ _ _ _ _ _ => default) (fun _ k => B_X11_turningsFrom_351 a0 x1 x2_257 k_257 k) n
theorem F_X11_turningsFrom_351_s {a0 : Nat} {x1 : Int32} {x2_257 : Int32} {k_257 : hI → hJ → hR → Int32 → (hU)} {n : Nat} {I_351 : hI} {J : hJ} {R : hR} {x3_351 : Int32} {x4_351 : Int32} {x5_351 : Int32} : F_X11_turningsFrom_351 a0 x1 x2_257 k_257 (n + 1)  I_351 J R x3_351 x4_351 x5_351 = B_X11_turningsFrom_351 a0 x1 x2_257 k_257 (F_X11_turningsFrom_351 a0 x1 x2_257 k_257 n)  I_351 J R x3_351 x4_351 x5_351 := rfl
noncomputable def F_X11_turningsFrom_307 (a0 : Nat) (x1 : Int32) (x2_257 : Int32) (x3_268 : Int32) (x4_268 : Int32) (k_257 : hI → hJ → hR → Int32 → (hU)) (k_268 : hI → hJ → hR → Int32 → Int32 → (hU)) (I_307 : hI) (J : hJ) (R : hR) (xs0_307 : Int32) : hU :=
  nm (x4_268 + (1 : Int32)) fun y16 => k_268 I_307 J R xs0_307 y16
noncomputable def B_X11_turningsFrom_268 (a0 : Nat) (x1 : Int32) (x2_257 : Int32) (k_257 : hI → hJ → hR → Int32 → (hU)) (k_268 : hI → hJ → hR → Int32 → Int32 → (hU)) (I_268 : hI) (J : hJ) (R : hR) (x3_268 : Int32) (x4_268 : Int32) : hU :=
  (if (7 : Int32) ≤ x4_268 then nm ((7 : Int32) * x1) fun y19 => nm (y19 + x2_257) fun y20 => nm ((R a0 32).getD 0) fun b21 => nm ((R a0 35).getD 0) fun b22 => nm ((7 : Int32) * x3_268) fun y23 => nm (y23 + x2_257) fun y24 => nm (I_268 b22 (Int32.toNatClampNeg y24)) fun y25 => nm (u2 I_268 b21 (Int32.toNatClampNeg y20) y25) fun I26 => nm ((R a0 33).getD 0) fun b27 => nm (u2 I26 b27 (Int32.toNatClampNeg y20) x3_268) fun I28 => F_X11_turningsFrom_351 a0 x1 x2_257 k_257 ((6 - (0 : Int32).toInt).toNat + 1) I28 J R x3_268 y20 (0 : Int32) else nm ((R a0 35).getD 0) fun b30 => nm ((7 : Int32) * x4_268) fun y31 => nm (y31 + x2_257) fun y32 => nm (I_268 b30 (Int32.toNatClampNeg y32)) fun y33 => nm ((7 : Int32) * x3_268) fun y34 => nm (y34 + x2_257) fun y35 => nm (I_268 b30 (Int32.toNatClampNeg y35)) fun y36 => (if y36 ≤ y33 then F_X11_turningsFrom_307 a0 x1 x2_257 x3_268 x4_268 k_257 k_268 I_268 J R x3_268 else F_X11_turningsFrom_307 a0 x1 x2_257 x3_268 x4_268 k_257 k_268 I_268 J R x4_268))
noncomputable def F_X11_turningsFrom_268 (a0 : Nat) (x1 : Int32) (x2_257 : Int32) (k_257 : hI → hJ → hR → Int32 → (hU)) : Nat → hI → hJ → hR → Int32 → Int32 → (hU) := fun n => Nat.rec (motive := fun _ => hI → hJ → hR → Int32 → Int32 → (hU)) (fun _ _ _ _ _ => default) (fun _ k => B_X11_turningsFrom_268 a0 x1 x2_257 k_257 k) n
theorem F_X11_turningsFrom_268_s {a0 : Nat} {x1 : Int32} {x2_257 : Int32} {k_257 : hI → hJ → hR → Int32 → (hU)} {n : Nat} {I_268 : hI} {J : hJ} {R : hR} {x3_268 : Int32} {x4_268 : Int32} : F_X11_turningsFrom_268 a0 x1 x2_257 k_257 (n + 1)  I_268 J R x3_268 x4_268 = B_X11_turningsFrom_268 a0 x1 x2_257 k_257 (F_X11_turningsFrom_268 a0 x1 x2_257 k_257 n)  I_268 J R x3_268 x4_268 := rfl
noncomputable def B_X11_turningsFrom_257 (a0 : Nat) (x1 : Int32) (k_257 : hI → hJ → hR → Int32 → (hU)) (I_257 : hI) (J : hJ) (R : hR) (x2_257 : Int32) : hU :=
  (if (7 : Int32) ≤ x2_257 then (I_257, J, R) else F_X11_turningsFrom_268 a0 x1 x2_257 k_257 ((7 - (1 : Int32).toInt).toNat + 1) I_257 J R (0 : Int32) (1 : Int32))
noncomputable def F_X11_turningsFrom_257 (a0 : Nat) (x1 : Int32) : Nat → hI → hJ → hR → Int32 → (hU) := fun n => Nat.rec (motive := fun _ => hI → hJ → hR → Int32 → (hU)) (fun _ _ _ _ => default) (fun _ k => B_X11_turningsFrom_257 a0 x1 k) n
theorem F_X11_turningsFrom_257_s {a0 : Nat} {x1 : Int32} {n : Nat} {I_257 : hI} {J : hJ} {R : hR} {x2_257 : Int32} : F_X11_turningsFrom_257 a0 x1 (n + 1)  I_257 J R x2_257 = B_X11_turningsFrom_257 a0 x1 (F_X11_turningsFrom_257 a0 x1 n)  I_257 J R x2_257 := rfl
noncomputable def F_X11_turningsFrom_243 (a0 : Nat) (x1 : Int32) (x2_33 : Int32) (x3_41 : Int32) (k_33 : hI → hJ → hR → Int32 → (hU)) (k_41 : hI → hJ → hR → Int32 → (hU)) (I_243 : hI) (J : hJ) (R : hR) : hU :=
  nm (x3_41 + (1 : Int32)) fun y43 => k_41 I_243 J R y43
noncomputable def B_X11_turningsFrom_191 (a0 : Nat) (x1 : Int32) (x2_33 : Int32) (x3_41 : Int32) (k_33 : hI → hJ → hR → Int32 → (hU)) (k_41 : hI → hJ → hR → Int32 → (hU)) (k_191 : hI → hJ → hR → Int32 → Int32 → Int32 → (hU)) (I_191 : hI) (J : hJ) (R : hR) (x5_191 : Int32) (x6_191 : Int32) (x9_191 : Int32) : hU :=
  nm (x2_33 - (1 : Int32)) fun y44 => (if y44 ≤ x9_191 then nm ((R a0 36).getD 0) fun b46 => nm ((6 : Int32) * x5_191) fun y47 => nm (y47 + x2_33) fun y48 => nm (y48 - (1 : Int32)) fun y49 => nm (u2 I_191 b46 (Int32.toNatClampNeg y49) x3_41) fun I50 => F_X11_turningsFrom_243 a0 x1 x2_33 x3_41 k_33 k_41 I50 J R else nm ((R a0 36).getD 0) fun b54 => nm ((6 : Int32) * x5_191) fun y55 => nm (y55 + x9_191) fun y56 => nm (x6_191 + x9_191) fun y57 => nm (I_191 b54 (Int32.toNatClampNeg y57)) fun y58 => nm (u2 I_191 b54 (Int32.toNatClampNeg y56) y58) fun I59 => nm (x9_191 + (1 : Int32)) fun y60 => k_191 I59 J R x5_191 x6_191 y60)
noncomputable def F_X11_turningsFrom_191 (a0 : Nat) (x1 : Int32) (x2_33 : Int32) (x3_41 : Int32) (k_33 : hI → hJ → hR → Int32 → (hU)) (k_41 : hI → hJ → hR → Int32 → (hU)) : Nat → hI → hJ → hR → Int32 → Int32 → Int32 → (hU) := fun n => Nat.rec (motive := fun _ => hI → hJ → hR → Int32 → Int32 → Int32 → (hU)) (fun _ _ _ _ _ _ => default) (fun _ k => B_X11_turningsFrom_191 a0 x1 x2_33 x3_41 k_33 k_41 k) n
theorem F_X11_turningsFrom_191_s {a0 : Nat} {x1 : Int32} {x2_33 : Int32} {x3_41 : Int32} {k_33 : hI → hJ → hR → Int32 → (hU)} {k_41 : hI → hJ → hR → Int32 → (hU)} {n : Nat} {I_191 : hI} {J : hJ} {R : hR} {x5_191 : Int32} {x6_191 : Int32} {x9_191 : Int32} : F_X11_turningsFrom_191 a0 x1 x2_33 x3_41 k_33 k_41 (n + 1)  I_191 J R x5_191 x6_191 x9_191 = B_X11_turningsFrom_191 a0 x1 x2_33 x3_41 k_33 k_41 (F_X11_turningsFrom_191 a0 x1 x2_33 x3_41 k_33 k_41 n)  I_191 J R x5_191 x6_191 x9_191 := rfl
noncomputable def F_X11_turningsFrom_172 (a0 : Nat) (x1 : Int32) (x2_33 : Int32) (x3_41 : Int32) (k_33 : hI → hJ → hR → Int32 → (hU)) (k_41 : hI → hJ → hR → Int32 → (hU)) (I_172 : hI) (J : hJ) (R : hR) (xs0_172 : Int32) (x5_172 : Int32) (x6_172 : Int32) (x7_172 : Int32) : hU :=
  (if xs0_172 = (0 : Int32) then F_X11_turningsFrom_243 a0 x1 x2_33 x3_41 k_33 k_41 I_172 J R else nm ((R a0 35).getD 0) fun b64 => nm (u2 I_172 b64 (Int32.toNatClampNeg x5_172) x7_172) fun I65 => F_X11_turningsFrom_191 a0 x1 x2_33 x3_41 k_33 k_41 ((5 - (0 : Int32).toInt).toNat + 1) I65 J R x5_172 x6_172 (0 : Int32))
noncomputable def F_X11_turningsFrom_171 (a0 : Nat) (x1 : Int32) (x2_33 : Int32) (x3_41 : Int32) (k_33 : hI → hJ → hR → Int32 → (hU)) (k_41 : hI → hJ → hR → Int32 → (hU)) (I_171 : hI) (J : hJ) (R : hR) (x5_171 : Int32) (x6_171 : Int32) (x7_171 : Int32) : hU :=
  F_X11_turningsFrom_172 a0 x1 x2_33 x3_41 k_33 k_41 I_171 J R (0 : Int32) x5_171 x6_171 x7_171
noncomputable def F_X11_turningsFrom_167 (a0 : Nat) (x1 : Int32) (x2_33 : Int32) (x3_41 : Int32) (k_33 : hI → hJ → hR → Int32 → (hU)) (k_41 : hI → hJ → hR → Int32 → (hU)) (I_167 : hI) (J : hJ) (R : hR) (x5_167 : Int32) (x6_167 : Int32) (x7_167 : Int32) : hU :=
  F_X11_turningsFrom_172 a0 x1 x2_33 x3_41 k_33 k_41 I_167 J R (1 : Int32) x5_167 x6_167 x7_167
noncomputable def B_X11_turningsFrom_41 (a0 : Nat) (x1 : Int32) (x2_33 : Int32) (k_33 : hI → hJ → hR → Int32 → (hU)) (k_41 : hI → hJ → hR → Int32 → (hU)) (I_41 : hI) (J : hJ) (R : hR) (x3_41 : Int32) : hU :=
  nm (I_41 a0 1) fun y66 => (if y66 ≤ x3_41 then nm (x2_33 + (1 : Int32)) fun y68 => k_33 I_41 J R y68 else nm ((R a0 35).getD 0) fun b71 => nm (x2_33 - (1 : Int32)) fun y72 => nm ((7 : Int32) * y72) fun y73 => nm ((R a0 2).getD 0) fun b74 => nm (I_41 b74 (Int32.toNatClampNeg x3_41)) fun y75 => nm (y73 + y75) fun y76 => nm (I_41 b71 (Int32.toNatClampNeg y76)) fun y77 => nm ((7 : Int32) * x2_33) fun y78 => nm ((R a0 3).getD 0) fun b79 => nm (I_41 b79 (Int32.toNatClampNeg x3_41)) fun y80 => nm (y78 + y80) fun y81 => nm ((6 : Int32) * y76) fun y86 => nm ((R a0 4).getD 0) fun b87 => nm (I_41 b87 (Int32.toNatClampNeg x3_41)) fun y88 => nm (y77 + y88) fun y89 => nm ((R a0 7).getD 0) fun b90 => nm (I_41 b90 (Int32.toNatClampNeg x3_41)) fun y91 => (if y91 = (0 : Int32) then F_X11_turningsFrom_171 a0 x1 x2_33 x3_41 k_33 k_41 I_41 J R y81 y86 y89 else (if (1000000 : Int32) ≤ y77 then F_X11_turningsFrom_171 a0 x1 x2_33 x3_41 k_33 k_41 I_41 J R y81 y86 y89 else nm (I_41 b71 (Int32.toNatClampNeg y81)) fun y98 => (if y89 < y98 then F_X11_turningsFrom_167 a0 x1 x2_33 x3_41 k_33 k_41 I_41 J R y81 y86 y89 else (if y89 = y98 then nm ((6 : Int32) * y81) fun y104 => nm (F_X11_isAhead a0 y86 x3_41 y104 x2_33 I_41 J R) fun y105 => (if y105 = (0 : Int32) then F_X11_turningsFrom_171 a0 x1 x2_33 x3_41 k_33 k_41 I_41 J R y81 y86 y89 else F_X11_turningsFrom_167 a0 x1 x2_33 x3_41 k_33 k_41 I_41 J R y81 y86 y89) else F_X11_turningsFrom_171 a0 x1 x2_33 x3_41 k_33 k_41 I_41 J R y81 y86 y89)))))
noncomputable def F_X11_turningsFrom_41 (a0 : Nat) (x1 : Int32) (x2_33 : Int32) (k_33 : hI → hJ → hR → Int32 → (hU)) : Nat → hI → hJ → hR → Int32 → (hU) := fun n => Nat.rec (motive := fun _ => hI → hJ → hR → Int32 → (hU)) (fun _ _ _ _ => default) (fun _ k => B_X11_turningsFrom_41 a0 x1 x2_33 k_33 k) n
theorem F_X11_turningsFrom_41_s {a0 : Nat} {x1 : Int32} {x2_33 : Int32} {k_33 : hI → hJ → hR → Int32 → (hU)} {n : Nat} {I_41 : hI} {J : hJ} {R : hR} {x3_41 : Int32} : F_X11_turningsFrom_41 a0 x1 x2_33 k_33 (n + 1)  I_41 J R x3_41 = B_X11_turningsFrom_41 a0 x1 x2_33 k_33 (F_X11_turningsFrom_41 a0 x1 x2_33 k_33 n)  I_41 J R x3_41 := rfl
noncomputable def B_X11_turningsFrom_33 (a0 : Nat) (x1 : Int32) (k_33 : hI → hJ → hR → Int32 → (hU)) (I_33 : hI) (J : hJ) (R : hR) (x2_33 : Int32) : hU :=
  (if (7 : Int32) ≤ x2_33 then F_X11_turningsFrom_257 a0 x1 ((7 - (0 : Int32).toInt).toNat + 1) I_33 J R (0 : Int32) else F_X11_turningsFrom_41 a0 x1 x2_33 k_33 ((32 - (0 : Int32).toInt).toNat + 1) I_33 J R (0 : Int32))
noncomputable def F_X11_turningsFrom_33 (a0 : Nat) (x1 : Int32) : Nat → hI → hJ → hR → Int32 → (hU) := fun n => Nat.rec (motive := fun _ => hI → hJ → hR → Int32 → (hU)) (fun _ _ _ _ => default) (fun _ k => B_X11_turningsFrom_33 a0 x1 k) n
theorem F_X11_turningsFrom_33_s {a0 : Nat} {x1 : Int32} {n : Nat} {I_33 : hI} {J : hJ} {R : hR} {x2_33 : Int32} : F_X11_turningsFrom_33 a0 x1 (n + 1)  I_33 J R x2_33 = B_X11_turningsFrom_33 a0 x1 (F_X11_turningsFrom_33 a0 x1 n)  I_33 J R x2_33 := rfl
noncomputable def F_X11_turningsFrom_24 (a0 : Nat) (x1 : Int32) (x2_2 : Int32) (k_2 : hI → hJ → hR → Int32 → (hU)) (I_24 : hI) (J : hJ) (R : hR) (xs0_24 : Int32) (xs2_24 : Nat) : hU :=
  nm (u2 I_24 xs2_24 (Int32.toNatClampNeg x2_2) xs0_24) fun I112 => nm (x2_2 + (1 : Int32)) fun y113 => k_2 I112 J R y113
noncomputable def B_X11_turningsFrom_2 (a0 : Nat) (x1 : Int32) (k_2 : hI → hJ → hR → Int32 → (hU)) (I_2 : hI) (J : hJ) (R : hR) (x2_2 : Int32) : hU :=
  (if (49 : Int32) ≤ x2_2 then F_X11_turningsFrom_33 a0 x1 ((7 - (1 : Int32).toInt).toNat + 1) I_2 J R (1 : Int32) else nm ((R a0 35).getD 0) fun b117 => (if x2_2 = x1 then F_X11_turningsFrom_24 a0 x1 x2_2 k_2 I_2 J R (0 : Int32) b117 else F_X11_turningsFrom_24 a0 x1 x2_2 k_2 I_2 J R (1000000 : Int32) b117))
noncomputable def F_X11_turningsFrom_2 (a0 : Nat) (x1 : Int32) : Nat → hI → hJ → hR → Int32 → (hU) := fun n => Nat.rec (motive := fun _ => hI → hJ → hR → Int32 → (hU)) (fun _ _ _ _ => default) (fun _ k => B_X11_turningsFrom_2 a0 x1 k) n
theorem F_X11_turningsFrom_2_s {a0 : Nat} {x1 : Int32} {n : Nat} {I_2 : hI} {J : hJ} {R : hR} {x2_2 : Int32} : F_X11_turningsFrom_2 a0 x1 (n + 1)  I_2 J R x2_2 = B_X11_turningsFrom_2 a0 x1 (F_X11_turningsFrom_2 a0 x1 n)  I_2 J R x2_2 := rfl
noncomputable def F_X11_turningsFrom (a0 : Nat) (x1 : Int32) (I : hI) (J : hJ) (R : hR) : hU :=
  F_X11_turningsFrom_2 a0 x1 ((49 - (0 : Int32).toInt).toNat + 1) I J R (0 : Int32)
def ms_X11_turningsFrom : List Nat := [5440, 5504, 5568, 5632, 5696]
set_option maxHeartbeats 4000000 in
set_option maxRecDepth 100000 in
theorem c_X11_turningsFrom {l : Launch} {D : va_G} {cy : Nat → ClassId} {L : List Nat} {C : Nat → Nat} {b0 : Nat} {I : hI} {J : hJ} {R : hR} {a0 : Nat} {x1 : Int32} (oI : OkI L C I) (oR : OkR L C R) (m0 : a0 ∈ L) (k0 : C a0 = 11) (h1 : Rg x1 (0) (6)) : CV l yX11_turningsFrom cX11_turningsFrom 10 1 D cy L C b0 [.ref a0, .int x1] (I, J, R) (fun v => Ps L C ms_X11_turningsFrom (I, J, R) v ∧ v.2.1 = J ∧ v.2.2 = R ∧ F_X11_turningsFrom a0 x1 I J R = v) := by
  refine CV.mk (plainFor_of_name (by decide)) (Nat.le_of_ble_eq_true rfl) ?_
  intro p e s m args below meth c ls Q hF ret hH hl
  obtain ⟨hx, hb, -, hml, hown, hts, -⟩ := hF
  have hl : lv_has ls 10 [(0, .ref a0), (1, .int x1)] := hl
  have hH : Hp D cy L C b0 s s.heap I J R s.heap [] := hH
  have sm : Sm C ms_X11_turningsFrom (I, J, R) (I, J, R) := Sm.rf
  obtain ⟨TT0, hT⟩ : ∃ TT0, TT0 = F_X11_turningsFrom a0 x1 I J R := ⟨_, rfl⟩
  have hv := hT
  unfold F_X11_turningsFrom at hv
  refine lv_iconst (v := 0) hx hb dX11_turningsFrom_0 (by decide) ?_
  refine lv_istore_n (lv' := [(2, .int 0), (0, .ref a0), (1, .int x1)]) hx hb dX11_turningsFrom_1 rfl hl (by decide) rfl (fun ls hl => ?_)
  have L_257 : ∀ (n_257 : Nat) (I_257 : hI) (H : Heap) (locs : List Loc) (ls : Array Slot) (x2_257 : Int32), (7 - x2_257.toInt).toNat < n_257 → Hp D cy L C b0 s s.heap I_257 J R H locs → TT0 = F_X11_turningsFrom_257 a0 x1 n_257 I_257 J R x2_257 → OkI L C I_257 → Sm C ms_X11_turningsFrom (I, J, R) (I_257, J, R) → Rg x1 (0) (6) → Rg x2_257 (0) (7) → lv_has ls 10 [(0, .ref a0), (1, .int x1), (2, .int x2_257)] → W p l e (rmD 1) s m args below meth c H locs 0 0 Q (F0 m 257 ls []) := by
    intro n_257
    induction n_257 with
    | zero => intro I_257 H locs ls x2_257 h; exact absurd h (Nat.not_lt_zero _)
    | succ n_257 ih_257 =>
      intro I_257 H locs ls x2_257 hn_257 hH hv oI sm r1_257 r2_257 hl
      replace hv := hv.trans F_X11_turningsFrom_257_s
      unfold B_X11_turningsFrom_257 at hv
      have L_351 : ∀ (n_351 : Nat) (I_351 : hI) (H : Heap) (locs : List Loc) (ls : Array Slot) (x3_351 : Int32) (x4_351 : Int32) (x5_351 : Int32), (6 - x5_351.toInt).toNat < n_351 → Hp D cy L C b0 s s.heap I_351 J R H locs → TT0 = F_X11_turningsFrom_351 a0 x1 x2_257 (F_X11_turningsFrom_257 a0 x1 n_257) n_351 I_351 J R x3_351 x4_351 x5_351 → OkI L C I_351 → Sm C ms_X11_turningsFrom (I, J, R) (I_351, J, R) → Rg x1 (0) (6) → Rg x2_257 (0) (6) → Rg x3_351 (0) (6) → Rg x4_351 (0) (48) → Rg x5_351 (0) (6) → lv_has ls 10 [(0, .ref a0), (1, .int x1), (2, .int x2_257), (3, .int x3_351), (4, .int x4_351), (5, .int x5_351)] → W p l e (rmD 1) s m args below meth c H locs 0 0 Q (F0 m 351 ls []) := by
        intro n_351
        induction n_351 with
        | zero => intro I_351 H locs ls x3_351 x4_351 x5_351 h; exact absurd h (Nat.not_lt_zero _)
        | succ n_351 ih_351 =>
          intro I_351 H locs ls x3_351 x4_351 x5_351 hn_351 hH hv oI sm r1_351 r2_351 r3_351 r4_351 r5_351 hl
          replace hv := hv.trans F_X11_turningsFrom_351_s
          unfold B_X11_turningsFrom_351 at hv
          refine lv_iload hx hb dX11_turningsFrom_351 (lv_at hl 5 rfl) ?_
          refine lv_iload_n hx hb dX11_turningsFrom_353 rfl (lv_at hl 3 rfl) ?_
          refine lv_icmp_ge (tgt := 393) hx hb dX11_turningsFrom_354 (by decide) (fun q1 => ?_) (fun q1 => ?_)
          · replace hv := fnP hv q1
            obtain ⟨y2, ey2⟩ : ∃ y : Int32, y = x2_257 + 1 := ⟨_, rfl⟩
            replace hv := fnS hv ey2
            obtain ⟨ty2, ry2⟩ := Rg_addx (a' := (1)) (b' := (7)) (rfl : x2_257.toInt = _) (by decide : Int32.toInt 1 = 1) r2_351 (Rg_c (x := 1) (a := (1)) (b := (1)) (by decide)) (by decide)
            rw [← ey2] at ty2 ry2
            refine lv_iinc (v := y2) (lv' := [(2, .int y2), (0, .ref a0), (1, .int x1), (3, .int x3_351), (4, .int x4_351), (5, .int x5_351)]) hx hb dX11_turningsFrom_393 hl (k := 2) rfl (by rw [ey2]; rfl) (by decide) rfl (fun ls hl => ?_)
            refine lv_goto (tgt := 257) hx hb dX11_turningsFrom_396 (by decide) ?_
            exact ih_257 I_351 _ _ _ y2 (lp_up hn_257 ty2 (Rg_ltc r2_351 (by decide))) hH hv oI sm r1_351 (Rg_w ry2 (by decide)) (lv_sub hl [1, 2, 0] rfl)
          replace hv := fnN hv q1
          have r3 : Rg x5_351 (0) (5) := Rg_ult r5_351 (Rg_nle q1) r3_351 (by decide)
          have r4 : Rg x3_351 (1) (6) := Rg_llt r3_351 (Rg_nle q1) r5_351 (by decide)
          refine lv_aload_n hx hb dX11_turningsFrom_357 rfl (lv_at hl 0 rfl) ?_
          obtain ⟨b5, mb5, vb5, kb5⟩ := rf_11_34 oR m0 k0
          replace hv := fnR hv vb5
          refine gf_11_34 vb5 hx hb hts hown hH m0 k0 rfl kf_X11_81 dX11_turningsFrom_358 ?_
          refine lv_bipush (v := 6) hx hb dX11_turningsFrom_361 (by decide) ?_
          refine lv_iload hx hb dX11_turningsFrom_363 (lv_at hl 4 rfl) ?_
          refine lv_imul hx hb dX11_turningsFrom_365 ?_
          refine lv_topi (fun y6 ey6 => ?_)
          replace hv := fnS hv ey6
          obtain ⟨ty6, ry6⟩ := Rg_mulx (a' := (0)) (b' := (288)) (by decide : Int32.toInt 6 = 6) (rfl : x4_351.toInt = _) (Rg_c (x := 6) (a := (6)) (b := (6)) (by decide)) r4_351 (by decide)
          rw [← ey6] at ty6 ry6
          refine lv_iload hx hb dX11_turningsFrom_366 (lv_at hl 5 rfl) ?_
          refine lv_iadd hx hb dX11_turningsFrom_368 ?_
          refine lv_topi (fun y7 ey7 => ?_)
          replace hv := fnS hv ey7
          obtain ⟨ty7, ry7⟩ := Rg_addx (a' := (0)) (b' := (293)) (rfl : y6.toInt = _) (rfl : x5_351.toInt = _) ry6 r3 (by decide)
          rw [← ey7] at ty7 ry7
          refine lv_aload_n hx hb dX11_turningsFrom_369 rfl (lv_at hl 0 rfl) ?_
          obtain ⟨b8, mb8, vb8, kb8⟩ := rf_11_36 oR m0 k0
          replace hv := fnR hv vb8
          refine gf_11_36 vb8 hx hb hts hown hH m0 k0 rfl kf_X11_87 dX11_turningsFrom_370 ?_
          refine lv_bipush (v := 6) hx hb dX11_turningsFrom_373 (by decide) ?_
          refine lv_bipush (v := 7) hx hb dX11_turningsFrom_375 (by decide) ?_
          refine lv_iload_n hx hb dX11_turningsFrom_377 rfl (lv_at hl 3 rfl) ?_
          refine lv_imul hx hb dX11_turningsFrom_378 ?_
          refine lv_topi (fun y9 ey9 => ?_)
          replace hv := fnS hv ey9
          obtain ⟨ty9, ry9⟩ := Rg_mulx (a' := (7)) (b' := (42)) (by decide : Int32.toInt 7 = 7) (rfl : x3_351.toInt = _) (Rg_c (x := 7) (a := (7)) (b := (7)) (by decide)) r4 (by decide)
          rw [← ey9] at ty9 ry9
          refine lv_iload_n hx hb dX11_turningsFrom_379 rfl (lv_at hl 2 rfl) ?_
          refine lv_iadd hx hb dX11_turningsFrom_380 ?_
          refine lv_topi (fun y10 ey10 => ?_)
          replace hv := fnS hv ey10
          obtain ⟨ty10, ry10⟩ := Rg_addx (a' := (7)) (b' := (48)) (rfl : y9.toInt = _) (rfl : x2_257.toInt = _) ry9 r2_351 (by decide)
          rw [← ey10] at ty10 ry10
          refine lv_imul hx hb dX11_turningsFrom_381 ?_
          refine lv_topi (fun y11 ey11 => ?_)
          replace hv := fnS hv ey11
          obtain ⟨ty11, ry11⟩ := Rg_mulx (a' := (42)) (b' := (288)) (by decide : Int32.toInt 6 = 6) (rfl : y10.toInt = _) (Rg_c (x := 6) (a := (6)) (b := (6)) (by decide)) ry10 (by decide)
          rw [← ey11] at ty11 ry11
          refine lv_iload hx hb dX11_turningsFrom_382 (lv_at hl 5 rfl) ?_
          refine lv_iadd hx hb dX11_turningsFrom_384 ?_
          refine lv_topi (fun y12 ey12 => ?_)
          replace hv := fnS hv ey12
          obtain ⟨ty12, ry12⟩ := Rg_addx (a' := (42)) (b' := (293)) (rfl : y11.toInt = _) (rfl : x5_351.toInt = _) ry11 r3 (by decide)
          rw [← ey12] at ty12 ry12
          refine ld_89 hx hb hH mb8 kb8 (Rg_in ry12 (by decide)) dX11_turningsFrom_385 ?_
          refine lv_topi (fun y13 ey13 => ?_)
          have ry13 : Rg y13 (0) (31) := by rw [ey13]; exact rd_89 oI mb8 kb8 (Rg_in ry12 (by decide))
          replace hv := fnS hv ey13
          refine st_87 hx hb hH mb5 kb5 (Rg_in ry7 (by decide)) dX11_turningsFrom_386 (fun I14 H locs eI14 hH => ?_)
          replace hv := fnS hv eI14
          have oI : OkI L C I14 := by rw [eI14]; exact wr_87 oI kb5 ry13
          have sm : Sm C ms_X11_turningsFrom (I, J, R) (I14, J, R) := by rw [eI14]; exact sm.stI kb5 (mC_arr (by decide) rfl)
          obtain ⟨y15, ey15⟩ : ∃ y : Int32, y = x5_351 + 1 := ⟨_, rfl⟩
          replace hv := fnS hv ey15
          obtain ⟨ty15, ry15⟩ := Rg_addx (a' := (1)) (b' := (6)) (rfl : x5_351.toInt = _) (by decide : Int32.toInt 1 = 1) r3 (Rg_c (x := 1) (a := (1)) (b := (1)) (by decide)) (by decide)
          rw [← ey15] at ty15 ry15
          refine lv_iinc (v := y15) (lv' := [(5, .int y15), (0, .ref a0), (1, .int x1), (2, .int x2_257), (3, .int x3_351), (4, .int x4_351)]) hx hb dX11_turningsFrom_387 hl (k := 5) rfl (by rw [ey15]; rfl) (by decide) rfl (fun ls hl => ?_)
          refine lv_goto (tgt := 351) hx hb dX11_turningsFrom_390 (by decide) ?_
          exact ih_351 I14 _ _ _ x3_351 x4_351 y15 (lp_up hn_351 ty15 (Rg_ltc r3 (by decide))) hH hv oI sm r1_351 r2_351 (Rg_w r4 (by decide)) r4_351 (Rg_w ry15 (by decide)) (lv_sub hl [1, 2, 3, 4, 5, 0] rfl)
      have L_268 : ∀ (n_268 : Nat) (I_268 : hI) (H : Heap) (locs : List Loc) (ls : Array Slot) (x3_268 : Int32) (x4_268 : Int32), (7 - x4_268.toInt).toNat < n_268 → Hp D cy L C b0 s s.heap I_268 J R H locs → TT0 = F_X11_turningsFrom_268 a0 x1 x2_257 (F_X11_turningsFrom_257 a0 x1 n_257) n_268 I_268 J R x3_268 x4_268 → OkI L C I_268 → Sm C ms_X11_turningsFrom (I, J, R) (I_268, J, R) → Rg x1 (0) (6) → Rg x2_257 (0) (6) → Rg x3_268 (0) (6) → Rg x4_268 (1) (7) → lv_has ls 10 [(0, .ref a0), (1, .int x1), (2, .int x2_257), (3, .int x3_268), (4, .int x4_268)] → W p l e (rmD 1) s m args below meth c H locs 0 0 Q (F0 m 268 ls []) := by
        intro n_268
        induction n_268 with
        | zero => intro I_268 H locs ls x3_268 x4_268 h; exact absurd h (Nat.not_lt_zero _)
        | succ n_268 ih_268 =>
          intro I_268 H locs ls x3_268 x4_268 hn_268 hH hv oI sm r1_268 r2_268 r3_268 r4_268 hl
          replace hv := hv.trans F_X11_turningsFrom_268_s
          unfold B_X11_turningsFrom_268 at hv
          have L_307 : ∀ (I_307 : hI) (H : Heap) (locs : List Loc) (ls : Array Slot) (xs0_307 : Int32), Hp D cy L C b0 s s.heap I_307 J R H locs → TT0 = F_X11_turningsFrom_307 a0 x1 x2_257 x3_268 x4_268 (F_X11_turningsFrom_257 a0 x1 n_257) (F_X11_turningsFrom_268 a0 x1 x2_257 (F_X11_turningsFrom_257 a0 x1 n_257) n_268) I_307 J R xs0_307 → OkI L C I_307 → Sm C ms_X11_turningsFrom (I, J, R) (I_307, J, R) → Rg xs0_307 (0) (6) → Rg x1 (0) (6) → Rg x2_257 (0) (6) → Rg x4_268 (1) (6) → lv_has ls 10 [(0, .ref a0), (1, .int x1), (2, .int x2_257), (4, .int x4_268)] → W p l e (rmD 1) s m args below meth c H locs 0 0 Q (F0 m 307 ls [.int xs0_307]) := by
            intro I_307 H locs ls xs0_307 hH hv oI sm rs0_307 r1_307 r2_307 r4_307 hl
            unfold F_X11_turningsFrom_307 at hv
            refine lv_istore_n (lv' := [(3, .int xs0_307), (0, .ref a0), (1, .int x1), (2, .int x2_257), (4, .int x4_268)]) hx hb dX11_turningsFrom_307 rfl hl (by decide) rfl (fun ls hl => ?_)
            obtain ⟨y16, ey16⟩ : ∃ y : Int32, y = x4_268 + 1 := ⟨_, rfl⟩
            replace hv := fnS hv ey16
            obtain ⟨ty16, ry16⟩ := Rg_addx (a' := (2)) (b' := (7)) (rfl : x4_268.toInt = _) (by decide : Int32.toInt 1 = 1) r4_307 (Rg_c (x := 1) (a := (1)) (b := (1)) (by decide)) (by decide)
            rw [← ey16] at ty16 ry16
            refine lv_iinc (v := y16) (lv' := [(4, .int y16), (3, .int xs0_307), (0, .ref a0), (1, .int x1), (2, .int x2_257)]) hx hb dX11_turningsFrom_308 hl (k := 4) rfl (by rw [ey16]; rfl) (by decide) rfl (fun ls hl => ?_)
            refine lv_goto (tgt := 268) hx hb dX11_turningsFrom_311 (by decide) ?_
            exact ih_268 I_307 _ _ _ xs0_307 y16 (lp_up hn_268 ty16 (Rg_ltc r4_307 (by decide))) hH hv oI sm r1_307 r2_307 rs0_307 (Rg_w ry16 (by decide)) (lv_sub hl [2, 3, 4, 1, 0] rfl)
          refine lv_iload hx hb dX11_turningsFrom_268 (lv_at hl 4 rfl) ?_
          refine lv_bipush (v := 7) hx hb dX11_turningsFrom_270 (by decide) ?_
          refine lv_icmp_ge (tgt := 314) hx hb dX11_turningsFrom_272 (by decide) (fun q17 => ?_) (fun q17 => ?_)
          rotate_left
          · replace hv := fnN hv q17
            have r29 : Rg x4_268 (1) (6) := Rg_ult r4_268 (Rg_nle q17) (Rg_c (x := 7) (a := (7)) (b := (7)) (by decide)) (by decide)
            refine lv_aload_n hx hb dX11_turningsFrom_275 rfl (lv_at hl 0 rfl) ?_
            obtain ⟨b30, mb30, vb30, kb30⟩ := rf_11_35 oR m0 k0
            replace hv := fnR hv vb30
            refine gf_11_35 vb30 hx hb hts hown hH m0 k0 rfl kf_X11_84 dX11_turningsFrom_276 ?_
            refine lv_bipush (v := 7) hx hb dX11_turningsFrom_279 (by decide) ?_
            refine lv_iload hx hb dX11_turningsFrom_281 (lv_at hl 4 rfl) ?_
            refine lv_imul hx hb dX11_turningsFrom_283 ?_
            refine lv_topi (fun y31 ey31 => ?_)
            replace hv := fnS hv ey31
            obtain ⟨ty31, ry31⟩ := Rg_mulx (a' := (7)) (b' := (42)) (by decide : Int32.toInt 7 = 7) (rfl : x4_268.toInt = _) (Rg_c (x := 7) (a := (7)) (b := (7)) (by decide)) r29 (by decide)
            rw [← ey31] at ty31 ry31
            refine lv_iload_n hx hb dX11_turningsFrom_284 rfl (lv_at hl 2 rfl) ?_
            refine lv_iadd hx hb dX11_turningsFrom_285 ?_
            refine lv_topi (fun y32 ey32 => ?_)
            replace hv := fnS hv ey32
            obtain ⟨ty32, ry32⟩ := Rg_addx (a' := (7)) (b' := (48)) (rfl : y31.toInt = _) (rfl : x2_257.toInt = _) ry31 r2_268 (by decide)
            rw [← ey32] at ty32 ry32
            refine ld_88 hx hb hH mb30 kb30 (Rg_in ry32 (by decide)) dX11_turningsFrom_286 ?_
            refine lv_topi (fun y33 ey33 => ?_)
            replace hv := fnS hv ey33
            refine lv_aload_n hx hb dX11_turningsFrom_287 rfl (lv_at hl 0 rfl) ?_
            refine gf_11_35 vb30 hx hb hts hown hH m0 k0 rfl kf_X11_84 dX11_turningsFrom_288 ?_
            refine lv_bipush (v := 7) hx hb dX11_turningsFrom_291 (by decide) ?_
            refine lv_iload_n hx hb dX11_turningsFrom_293 rfl (lv_at hl 3 rfl) ?_
            refine lv_imul hx hb dX11_turningsFrom_294 ?_
            refine lv_topi (fun y34 ey34 => ?_)
            replace hv := fnS hv ey34
            obtain ⟨ty34, ry34⟩ := Rg_mulx (a' := (0)) (b' := (42)) (by decide : Int32.toInt 7 = 7) (rfl : x3_268.toInt = _) (Rg_c (x := 7) (a := (7)) (b := (7)) (by decide)) r3_268 (by decide)
            rw [← ey34] at ty34 ry34
            refine lv_iload_n hx hb dX11_turningsFrom_295 rfl (lv_at hl 2 rfl) ?_
            refine lv_iadd hx hb dX11_turningsFrom_296 ?_
            refine lv_topi (fun y35 ey35 => ?_)
            replace hv := fnS hv ey35
            obtain ⟨ty35, ry35⟩ := Rg_addx (a' := (0)) (b' := (48)) (rfl : y34.toInt = _) (rfl : x2_257.toInt = _) ry34 r2_268 (by decide)
            rw [← ey35] at ty35 ry35
            refine ld_88 hx hb hH mb30 kb30 (Rg_in ry35 (by decide)) dX11_turningsFrom_297 ?_
            refine lv_topi (fun y36 ey36 => ?_)
            replace hv := fnS hv ey36
            refine lv_icmp_ge (tgt := 306) hx hb dX11_turningsFrom_298 (by decide) (fun q37 => ?_) (fun q37 => ?_)
            · replace hv := fnP hv q37
              refine lv_iload_n hx hb dX11_turningsFrom_306 rfl (lv_at hl 3 rfl) ?_
              exact L_307 I_268 _ _ _ x3_268 hH hv oI sm r3_268 r1_268 r2_268 r29 (lv_sub hl [0, 1, 2, 4] rfl)
            replace hv := fnN hv q37
            have r38 : Rg y33 (-2147483648) (2147483646) := Rg_ult (Rg_any y33) (Rg_nle q37) (Rg_any y36) (by decide)
            have r39 : Rg y36 (-2147483647) (2147483647) := Rg_llt (Rg_any y36) (Rg_nle q37) (Rg_any y33) (by decide)
            refine lv_iload hx hb dX11_turningsFrom_301 (lv_at hl 4 rfl) ?_
            refine lv_goto (tgt := 307) hx hb dX11_turningsFrom_303 (by decide) ?_
            exact L_307 I_268 _ _ _ x4_268 hH hv oI sm (Rg_w r29 (by decide)) r1_268 r2_268 r29 (lv_sub hl [0, 1, 2, 4] rfl)
          replace hv := fnP hv q17
          have r18 : Rg x4_268 (7) (7) := Rg_lle r4_268 (Rg_le q17) (Rg_c (x := 7) (a := (7)) (b := (7)) (by decide)) (by decide)
          refine lv_bipush (v := 7) hx hb dX11_turningsFrom_314 (by decide) ?_
          refine lv_iload_n hx hb dX11_turningsFrom_316 rfl (lv_at hl 1 rfl) ?_
          refine lv_imul hx hb dX11_turningsFrom_317 ?_
          refine lv_topi (fun y19 ey19 => ?_)
          replace hv := fnS hv ey19
          obtain ⟨ty19, ry19⟩ := Rg_mulx (a' := (0)) (b' := (42)) (by decide : Int32.toInt 7 = 7) (rfl : x1.toInt = _) (Rg_c (x := 7) (a := (7)) (b := (7)) (by decide)) r1_268 (by decide)
          rw [← ey19] at ty19 ry19
          refine lv_iload_n hx hb dX11_turningsFrom_318 rfl (lv_at hl 2 rfl) ?_
          refine lv_iadd hx hb dX11_turningsFrom_319 ?_
          refine lv_topi (fun y20 ey20 => ?_)
          replace hv := fnS hv ey20
          obtain ⟨ty20, ry20⟩ := Rg_addx (a' := (0)) (b' := (48)) (rfl : y19.toInt = _) (rfl : x2_257.toInt = _) ry19 r2_268 (by decide)
          rw [← ey20] at ty20 ry20
          refine lv_istore (lv' := [(4, .int y20), (0, .ref a0), (1, .int x1), (2, .int x2_257), (3, .int x3_268)]) hx hb dX11_turningsFrom_320 hl (by decide) rfl (fun ls hl => ?_)
          refine lv_aload_n hx hb dX11_turningsFrom_322 rfl (lv_at hl 1 rfl) ?_
          obtain ⟨b21, mb21, vb21, kb21⟩ := rf_11_32 oR m0 k0
          replace hv := fnR hv vb21
          refine gf_11_32 vb21 hx hb hts hown hH m0 k0 rfl kf_X11_75 dX11_turningsFrom_323 ?_
          refine lv_iload hx hb dX11_turningsFrom_326 (lv_at hl 0 rfl) ?_
          refine lv_aload_n hx hb dX11_turningsFrom_328 rfl (lv_at hl 1 rfl) ?_
          obtain ⟨b22, mb22, vb22, kb22⟩ := rf_11_35 oR m0 k0
          replace hv := fnR hv vb22
          refine gf_11_35 vb22 hx hb hts hown hH m0 k0 rfl kf_X11_84 dX11_turningsFrom_329 ?_
          refine lv_bipush (v := 7) hx hb dX11_turningsFrom_332 (by decide) ?_
          refine lv_iload_n hx hb dX11_turningsFrom_334 rfl (lv_at hl 4 rfl) ?_
          refine lv_imul hx hb dX11_turningsFrom_335 ?_
          refine lv_topi (fun y23 ey23 => ?_)
          replace hv := fnS hv ey23
          obtain ⟨ty23, ry23⟩ := Rg_mulx (a' := (0)) (b' := (42)) (by decide : Int32.toInt 7 = 7) (rfl : x3_268.toInt = _) (Rg_c (x := 7) (a := (7)) (b := (7)) (by decide)) r3_268 (by decide)
          rw [← ey23] at ty23 ry23
          refine lv_iload_n hx hb dX11_turningsFrom_336 rfl (lv_at hl 3 rfl) ?_
          refine lv_iadd hx hb dX11_turningsFrom_337 ?_
          refine lv_topi (fun y24 ey24 => ?_)
          replace hv := fnS hv ey24
          obtain ⟨ty24, ry24⟩ := Rg_addx (a' := (0)) (b' := (48)) (rfl : y23.toInt = _) (rfl : x2_257.toInt = _) ry23 r2_268 (by decide)
          rw [← ey24] at ty24 ry24
          refine ld_88 hx hb hH mb22 kb22 (Rg_in ry24 (by decide)) dX11_turningsFrom_338 ?_
          refine lv_topi (fun y25 ey25 => ?_)
          replace hv := fnS hv ey25
          refine st_85 hx hb hH mb21 kb21 (Rg_in ry20 (by decide)) dX11_turningsFrom_339 (fun I26 H locs eI26 hH => ?_)
          replace hv := fnS hv eI26
          have oI : OkI L C I26 := by rw [eI26]; exact wr_85 oI kb21 (Rg_any y25)
          have sm : Sm C ms_X11_turningsFrom (I, J, R) (I26, J, R) := by rw [eI26]; exact sm.stI kb21 (mC_arr (by decide) rfl)
          refine lv_aload_n hx hb dX11_turningsFrom_340 rfl (lv_at hl 1 rfl) ?_
          obtain ⟨b27, mb27, vb27, kb27⟩ := rf_11_33 oR m0 k0
          replace hv := fnR hv vb27
          refine gf_11_33 vb27 hx hb hts hown hH m0 k0 rfl kf_X11_78 dX11_turningsFrom_341 ?_
          refine lv_iload hx hb dX11_turningsFrom_344 (lv_at hl 0 rfl) ?_
          refine lv_iload_n hx hb dX11_turningsFrom_346 rfl (lv_at hl 4 rfl) ?_
          refine st_86 hx hb hH mb27 kb27 (Rg_in ry20 (by decide)) dX11_turningsFrom_347 (fun I28 H locs eI28 hH => ?_)
          replace hv := fnS hv eI28
          have oI : OkI L C I28 := by rw [eI28]; exact wr_86 oI kb27 r3_268
          have sm : Sm C ms_X11_turningsFrom (I, J, R) (I28, J, R) := by rw [eI28]; exact sm.stI kb27 (mC_arr (by decide) rfl)
          refine lv_iconst (v := 0) hx hb dX11_turningsFrom_348 (by decide) ?_
          refine lv_istore (lv' := [(5, .int 0), (4, .int y20), (0, .ref a0), (1, .int x1), (2, .int x2_257), (3, .int x3_268)]) hx hb dX11_turningsFrom_349 hl (by decide) rfl (fun ls hl => ?_)
          exact L_351 ((6 - (0 : Int32).toInt).toNat + 1) I28 _ _ _ x3_268 y20 0 (Nat.lt_succ_self _) hH hv oI sm r1_268 r2_268 r3_268 ry20 (Rg_w (Rg_c (x := 0) (a := (0)) (b := (0)) (by decide)) (by decide)) (lv_sub hl [2, 3, 4, 5, 1, 0] rfl)
      refine lv_iload_n hx hb dX11_turningsFrom_257 rfl (lv_at hl 2 rfl) ?_
      refine lv_bipush (v := 7) hx hb dX11_turningsFrom_258 (by decide) ?_
      refine lv_icmp_ge (tgt := 399) hx hb dX11_turningsFrom_260 (by decide) (fun q40 => ?_) (fun q40 => ?_)
      · replace hv := fnP hv q40
        have r41 : Rg x2_257 (7) (7) := Rg_lle r2_257 (Rg_le q40) (Rg_c (x := 7) (a := (7)) (b := (7)) (by decide)) (by decide)
        exact ret _ _ _ _ _ _ _ dX11_turningsFrom_399 hH ⟨⟨oI, oR, sm⟩, rfl, rfl, (hT.symm.trans hv)⟩
      replace hv := fnN hv q40
      have r42 : Rg x2_257 (0) (6) := Rg_ult r2_257 (Rg_nle q40) (Rg_c (x := 7) (a := (7)) (b := (7)) (by decide)) (by decide)
      refine lv_iconst (v := 0) hx hb dX11_turningsFrom_263 (by decide) ?_
      refine lv_istore_n (lv' := [(3, .int 0), (0, .ref a0), (1, .int x1), (2, .int x2_257)]) hx hb dX11_turningsFrom_264 rfl hl (by decide) rfl (fun ls hl => ?_)
      refine lv_iconst (v := 1) hx hb dX11_turningsFrom_265 (by decide) ?_
      refine lv_istore (lv' := [(4, .int 1), (3, .int 0), (0, .ref a0), (1, .int x1), (2, .int x2_257)]) hx hb dX11_turningsFrom_266 hl (by decide) rfl (fun ls hl => ?_)
      exact L_268 ((7 - (1 : Int32).toInt).toNat + 1) I_257 _ _ _ 0 1 (Nat.lt_succ_self _) hH hv oI sm r1_257 r42 (Rg_w (Rg_c (x := 0) (a := (0)) (b := (0)) (by decide)) (by decide)) (Rg_w (Rg_c (x := 1) (a := (1)) (b := (1)) (by decide)) (by decide)) (lv_sub hl [2, 3, 4, 1, 0] rfl)
  have L_33 : ∀ (n_33 : Nat) (I_33 : hI) (H : Heap) (locs : List Loc) (ls : Array Slot) (x2_33 : Int32), (7 - x2_33.toInt).toNat < n_33 → Hp D cy L C b0 s s.heap I_33 J R H locs → TT0 = F_X11_turningsFrom_33 a0 x1 n_33 I_33 J R x2_33 → OkI L C I_33 → Sm C ms_X11_turningsFrom (I, J, R) (I_33, J, R) → Rg x1 (0) (6) → Rg x2_33 (1) (7) → lv_has ls 10 [(0, .ref a0), (1, .int x1), (2, .int x2_33)] → W p l e (rmD 1) s m args below meth c H locs 0 0 Q (F0 m 33 ls []) := by
    intro n_33
    induction n_33 with
    | zero => intro I_33 H locs ls x2_33 h; exact absurd h (Nat.not_lt_zero _)
    | succ n_33 ih_33 =>
      intro I_33 H locs ls x2_33 hn_33 hH hv oI sm r1_33 r2_33 hl
      replace hv := hv.trans F_X11_turningsFrom_33_s
      unfold B_X11_turningsFrom_33 at hv
      have L_41 : ∀ (n_41 : Nat) (I_41 : hI) (H : Heap) (locs : List Loc) (ls : Array Slot) (x3_41 : Int32), (32 - x3_41.toInt).toNat < n_41 → Hp D cy L C b0 s s.heap I_41 J R H locs → TT0 = F_X11_turningsFrom_41 a0 x1 x2_33 (F_X11_turningsFrom_33 a0 x1 n_33) n_41 I_41 J R x3_41 → OkI L C I_41 → Sm C ms_X11_turningsFrom (I, J, R) (I_41, J, R) → Rg x1 (0) (6) → Rg x2_33 (1) (6) → Rg x3_41 (0) (32) → lv_has ls 10 [(0, .ref a0), (1, .int x1), (2, .int x2_33), (3, .int x3_41)] → W p l e (rmD 1) s m args below meth c H locs 0 0 Q (F0 m 41 ls []) := by
        intro n_41
        induction n_41 with
        | zero => intro I_41 H locs ls x3_41 h; exact absurd h (Nat.not_lt_zero _)
        | succ n_41 ih_41 =>
          intro I_41 H locs ls x3_41 hn_41 hH hv oI sm r1_41 r2_41 r3_41 hl
          replace hv := hv.trans F_X11_turningsFrom_41_s
          unfold B_X11_turningsFrom_41 at hv
          have L_243 : ∀ (I_243 : hI) (H : Heap) (locs : List Loc) (ls : Array Slot), Hp D cy L C b0 s s.heap I_243 J R H locs → TT0 = F_X11_turningsFrom_243 a0 x1 x2_33 x3_41 (F_X11_turningsFrom_33 a0 x1 n_33) (F_X11_turningsFrom_41 a0 x1 x2_33 (F_X11_turningsFrom_33 a0 x1 n_33) n_41) I_243 J R → OkI L C I_243 → Sm C ms_X11_turningsFrom (I, J, R) (I_243, J, R) → Rg x1 (0) (6) → Rg x2_33 (1) (6) → Rg x3_41 (0) (31) → lv_has ls 10 [(0, .ref a0), (1, .int x1), (2, .int x2_33), (3, .int x3_41)] → W p l e (rmD 1) s m args below meth c H locs 0 0 Q (F0 m 243 ls []) := by
            intro I_243 H locs ls hH hv oI sm r1_243 r2_243 r3_243 hl
            unfold F_X11_turningsFrom_243 at hv
            obtain ⟨y43, ey43⟩ : ∃ y : Int32, y = x3_41 + 1 := ⟨_, rfl⟩
            replace hv := fnS hv ey43
            obtain ⟨ty43, ry43⟩ := Rg_addx (a' := (1)) (b' := (32)) (rfl : x3_41.toInt = _) (by decide : Int32.toInt 1 = 1) r3_243 (Rg_c (x := 1) (a := (1)) (b := (1)) (by decide)) (by decide)
            rw [← ey43] at ty43 ry43
            refine lv_iinc (v := y43) (lv' := [(3, .int y43), (0, .ref a0), (1, .int x1), (2, .int x2_33)]) hx hb dX11_turningsFrom_243 hl (k := 3) rfl (by rw [ey43]; rfl) (by decide) rfl (fun ls hl => ?_)
            refine lv_goto (tgt := 41) hx hb dX11_turningsFrom_246 (by decide) ?_
            exact ih_41 I_243 _ _ _ y43 (lp_up hn_41 ty43 (Rg_ltc r3_243 (by decide))) hH hv oI sm r1_243 r2_243 (Rg_w ry43 (by decide)) (lv_sub hl [1, 2, 3, 0] rfl)
          have L_191 : ∀ (n_191 : Nat) (I_191 : hI) (H : Heap) (locs : List Loc) (ls : Array Slot) (x5_191 : Int32) (x6_191 : Int32) (x9_191 : Int32), (5 - x9_191.toInt).toNat < n_191 → Hp D cy L C b0 s s.heap I_191 J R H locs → TT0 = F_X11_turningsFrom_191 a0 x1 x2_33 x3_41 (F_X11_turningsFrom_33 a0 x1 n_33) (F_X11_turningsFrom_41 a0 x1 x2_33 (F_X11_turningsFrom_33 a0 x1 n_33) n_41) n_191 I_191 J R x5_191 x6_191 x9_191 → OkI L C I_191 → Sm C ms_X11_turningsFrom (I, J, R) (I_191, J, R) → Rg x1 (0) (6) → Rg x2_33 (1) (6) → Rg x3_41 (0) (31) → Rg x5_191 (7) (48) → Rg x6_191 (0) (246) → Rg x9_191 (0) (5) → lv_has ls 10 [(0, .ref a0), (1, .int x1), (2, .int x2_33), (3, .int x3_41), (5, .int x5_191), (6, .int x6_191), (9, .int x9_191)] → W p l e (rmD 1) s m args below meth c H locs 0 0 Q (F0 m 191 ls []) := by
            intro n_191
            induction n_191 with
            | zero => intro I_191 H locs ls x5_191 x6_191 x9_191 h; exact absurd h (Nat.not_lt_zero _)
            | succ n_191 ih_191 =>
              intro I_191 H locs ls x5_191 x6_191 x9_191 hn_191 hH hv oI sm r1_191 r2_191 r3_191 r5_191 r6_191 r9_191 hl
              replace hv := hv.trans F_X11_turningsFrom_191_s
              unfold B_X11_turningsFrom_191 at hv
              refine lv_iload hx hb dX11_turningsFrom_191 (lv_at hl 6 rfl) ?_
              refine lv_iload_n hx hb dX11_turningsFrom_193 rfl (lv_at hl 2 rfl) ?_
              refine lv_iconst (v := 1) hx hb dX11_turningsFrom_194 (by decide) ?_
              refine lv_isub hx hb dX11_turningsFrom_195 ?_
              refine lv_topi (fun y44 ey44 => ?_)
              replace hv := fnS hv ey44
              obtain ⟨ty44, ry44⟩ := Rg_subx (a' := (0)) (b' := (5)) (rfl : x2_33.toInt = _) (by decide : Int32.toInt 1 = 1) r2_191 (Rg_c (x := 1) (a := (1)) (b := (1)) (by decide)) (by decide)
              rw [← ey44] at ty44 ry44
              refine lv_icmp_ge (tgt := 228) hx hb dX11_turningsFrom_196 (by decide) (fun q45 => ?_) (fun q45 => ?_)
              · replace hv := fnP hv q45
                refine lv_aload_n hx hb dX11_turningsFrom_228 rfl (lv_at hl 0 rfl) ?_
                obtain ⟨b46, mb46, vb46, kb46⟩ := rf_11_36 oR m0 k0
                replace hv := fnR hv vb46
                refine gf_11_36 vb46 hx hb hts hown hH m0 k0 rfl kf_X11_87 dX11_turningsFrom_229 ?_
                refine lv_bipush (v := 6) hx hb dX11_turningsFrom_232 (by decide) ?_
                refine lv_iload hx hb dX11_turningsFrom_234 (lv_at hl 4 rfl) ?_
                refine lv_imul hx hb dX11_turningsFrom_236 ?_
                refine lv_topi (fun y47 ey47 => ?_)
                replace hv := fnS hv ey47
                obtain ⟨ty47, ry47⟩ := Rg_mulx (a' := (42)) (b' := (288)) (by decide : Int32.toInt 6 = 6) (rfl : x5_191.toInt = _) (Rg_c (x := 6) (a := (6)) (b := (6)) (by decide)) r5_191 (by decide)
                rw [← ey47] at ty47 ry47
                refine lv_iload_n hx hb dX11_turningsFrom_237 rfl (lv_at hl 2 rfl) ?_
                refine lv_iadd hx hb dX11_turningsFrom_238 ?_
                refine lv_topi (fun y48 ey48 => ?_)
                replace hv := fnS hv ey48
                obtain ⟨ty48, ry48⟩ := Rg_addx (a' := (43)) (b' := (294)) (rfl : y47.toInt = _) (rfl : x2_33.toInt = _) ry47 r2_191 (by decide)
                rw [← ey48] at ty48 ry48
                refine lv_iconst (v := 1) hx hb dX11_turningsFrom_239 (by decide) ?_
                refine lv_isub hx hb dX11_turningsFrom_240 ?_
                refine lv_topi (fun y49 ey49 => ?_)
                replace hv := fnS hv ey49
                obtain ⟨ty49, ry49⟩ := Rg_subx (a' := (42)) (b' := (293)) (rfl : y48.toInt = _) (by decide : Int32.toInt 1 = 1) ry48 (Rg_c (x := 1) (a := (1)) (b := (1)) (by decide)) (by decide)
                rw [← ey49] at ty49 ry49
                refine lv_iload_n hx hb dX11_turningsFrom_241 rfl (lv_at hl 3 rfl) ?_
                refine st_89 hx hb hH mb46 kb46 (Rg_in ry49 (by decide)) dX11_turningsFrom_242 (fun I50 H locs eI50 hH => ?_)
                replace hv := fnS hv eI50
                have oI : OkI L C I50 := by rw [eI50]; exact wr_89 oI kb46 r3_191
                have sm : Sm C ms_X11_turningsFrom (I, J, R) (I50, J, R) := by rw [eI50]; exact sm.stI kb46 (mC_arr (by decide) rfl)
                exact L_243 I50 _ _ _ hH hv oI sm r1_191 r2_191 r3_191 (lv_sub hl [0, 1, 2, 3] rfl)
              replace hv := fnN hv q45
              have r51 : Rg x9_191 (0) (4) := Rg_ult r9_191 (Rg_nle q45) ry44 (by decide)
              have r52 : Rg y44 (1) (5) := Rg_llt ry44 (Rg_nle q45) r9_191 (by decide)
              have r53 : Rg x2_33 (2) (6) := by have a1 := r52.1; have a2 := r52.2; have a3 := r2_191.1; have a4 := r2_191.2; exact ⟨by omega, by omega⟩
              refine lv_aload_n hx hb dX11_turningsFrom_199 rfl (lv_at hl 0 rfl) ?_
              obtain ⟨b54, mb54, vb54, kb54⟩ := rf_11_36 oR m0 k0
              replace hv := fnR hv vb54
              refine gf_11_36 vb54 hx hb hts hown hH m0 k0 rfl kf_X11_87 dX11_turningsFrom_200 ?_
              refine lv_bipush (v := 6) hx hb dX11_turningsFrom_203 (by decide) ?_
              refine lv_iload hx hb dX11_turningsFrom_205 (lv_at hl 4 rfl) ?_
              refine lv_imul hx hb dX11_turningsFrom_207 ?_
              refine lv_topi (fun y55 ey55 => ?_)
              replace hv := fnS hv ey55
              obtain ⟨ty55, ry55⟩ := Rg_mulx (a' := (42)) (b' := (288)) (by decide : Int32.toInt 6 = 6) (rfl : x5_191.toInt = _) (Rg_c (x := 6) (a := (6)) (b := (6)) (by decide)) r5_191 (by decide)
              rw [← ey55] at ty55 ry55
              refine lv_iload hx hb dX11_turningsFrom_208 (lv_at hl 6 rfl) ?_
              refine lv_iadd hx hb dX11_turningsFrom_210 ?_
              refine lv_topi (fun y56 ey56 => ?_)
              replace hv := fnS hv ey56
              obtain ⟨ty56, ry56⟩ := Rg_addx (a' := (42)) (b' := (292)) (rfl : y55.toInt = _) (rfl : x9_191.toInt = _) ry55 r51 (by decide)
              rw [← ey56] at ty56 ry56
              refine lv_aload_n hx hb dX11_turningsFrom_211 rfl (lv_at hl 0 rfl) ?_
              refine gf_11_36 vb54 hx hb hts hown hH m0 k0 rfl kf_X11_87 dX11_turningsFrom_212 ?_
              refine lv_iload hx hb dX11_turningsFrom_215 (lv_at hl 5 rfl) ?_
              refine lv_iload hx hb dX11_turningsFrom_217 (lv_at hl 6 rfl) ?_
              refine lv_iadd hx hb dX11_turningsFrom_219 ?_
              refine lv_topi (fun y57 ey57 => ?_)
              replace hv := fnS hv ey57
              obtain ⟨ty57, ry57⟩ := Rg_addx (a' := (0)) (b' := (250)) (rfl : x6_191.toInt = _) (rfl : x9_191.toInt = _) r6_191 r51 (by decide)
              rw [← ey57] at ty57 ry57
              refine ld_89 hx hb hH mb54 kb54 (Rg_in ry57 (by decide)) dX11_turningsFrom_220 ?_
              refine lv_topi (fun y58 ey58 => ?_)
              have ry58 : Rg y58 (0) (31) := by rw [ey58]; exact rd_89 oI mb54 kb54 (Rg_in ry57 (by decide))
              replace hv := fnS hv ey58
              refine st_89 hx hb hH mb54 kb54 (Rg_in ry56 (by decide)) dX11_turningsFrom_221 (fun I59 H locs eI59 hH => ?_)
              replace hv := fnS hv eI59
              have oI : OkI L C I59 := by rw [eI59]; exact wr_89 oI kb54 ry58
              have sm : Sm C ms_X11_turningsFrom (I, J, R) (I59, J, R) := by rw [eI59]; exact sm.stI kb54 (mC_arr (by decide) rfl)
              obtain ⟨y60, ey60⟩ : ∃ y : Int32, y = x9_191 + 1 := ⟨_, rfl⟩
              replace hv := fnS hv ey60
              obtain ⟨ty60, ry60⟩ := Rg_addx (a' := (1)) (b' := (5)) (rfl : x9_191.toInt = _) (by decide : Int32.toInt 1 = 1) r51 (Rg_c (x := 1) (a := (1)) (b := (1)) (by decide)) (by decide)
              rw [← ey60] at ty60 ry60
              refine lv_iinc (v := y60) (lv' := [(9, .int y60), (0, .ref a0), (1, .int x1), (2, .int x2_33), (3, .int x3_41), (5, .int x5_191), (6, .int x6_191)]) hx hb dX11_turningsFrom_222 hl (k := 6) rfl (by rw [ey60]; rfl) (by decide) rfl (fun ls hl => ?_)
              refine lv_goto (tgt := 191) hx hb dX11_turningsFrom_225 (by decide) ?_
              exact ih_191 I59 _ _ _ x5_191 x6_191 y60 (lp_up hn_191 ty60 (Rg_ltc r51 (by decide))) hH hv oI sm r1_191 (Rg_w r53 (by decide)) r3_191 r5_191 r6_191 (Rg_w ry60 (by decide)) (lv_sub hl [1, 2, 3, 4, 5, 6, 0] rfl)
          have L_172 : ∀ (I_172 : hI) (H : Heap) (locs : List Loc) (ls : Array Slot) (xs0_172 : Int32) (x5_172 : Int32) (x6_172 : Int32) (x7_172 : Int32), Hp D cy L C b0 s s.heap I_172 J R H locs → TT0 = F_X11_turningsFrom_172 a0 x1 x2_33 x3_41 (F_X11_turningsFrom_33 a0 x1 n_33) (F_X11_turningsFrom_41 a0 x1 x2_33 (F_X11_turningsFrom_33 a0 x1 n_33) n_41) I_172 J R xs0_172 x5_172 x6_172 x7_172 → OkI L C I_172 → Sm C ms_X11_turningsFrom (I, J, R) (I_172, J, R) → Rg xs0_172 (0) (1) → Rg x1 (0) (6) → Rg x2_33 (1) (6) → Rg x3_41 (0) (31) → Rg x5_172 (7) (48) → Rg x6_172 (0) (246) → lv_has ls 10 [(0, .ref a0), (1, .int x1), (2, .int x2_33), (3, .int x3_41), (5, .int x5_172), (6, .int x6_172), (7, .int x7_172)] → W p l e (rmD 1) s m args below meth c H locs 0 0 Q (F0 m 172 ls [.int xs0_172]) := by
            intro I_172 H locs ls xs0_172 x5_172 x6_172 x7_172 hH hv oI sm rs0_172 r1_172 r2_172 r3_172 r5_172 r6_172 hl
            unfold F_X11_turningsFrom_172 at hv
            refine lv_istore (lv' := [(8, .int xs0_172), (0, .ref a0), (1, .int x1), (2, .int x2_33), (3, .int x3_41), (5, .int x5_172), (6, .int x6_172), (7, .int x7_172)]) hx hb dX11_turningsFrom_172 hl (by decide) rfl (fun ls hl => ?_)
            refine lv_iload hx hb dX11_turningsFrom_174 (lv_at hl 0 rfl) ?_
            refine lv_if_eq (tgt := 243) hx hb dX11_turningsFrom_176 (by decide) (fun q61 => ?_) (fun q61 => ?_)
            · replace hv := fnP hv q61
              have r62 : Rg xs0_172 (0) (0) := Rg_both rs0_172 (Rg_eqv q61 (Rg_c (x := 0) (a := (0)) (b := (0)) (by decide))) (by decide)
              exact L_243 I_172 _ _ _ hH hv oI sm r1_172 r2_172 r3_172 (lv_sub hl [1, 2, 3, 4] rfl)
            replace hv := fnN hv q61
            have r63 : Rg xs0_172 (1) (1) := Rg_nelo rs0_172 (Rg_ne q61) (Rg_c (x := 0) (a := (0)) (b := (0)) (by decide)) (by decide)
            refine lv_aload_n hx hb dX11_turningsFrom_179 rfl (lv_at hl 1 rfl) ?_
            obtain ⟨b64, mb64, vb64, kb64⟩ := rf_11_35 oR m0 k0
            replace hv := fnR hv vb64
            refine gf_11_35 vb64 hx hb hts hown hH m0 k0 rfl kf_X11_84 dX11_turningsFrom_180 ?_
            refine lv_iload hx hb dX11_turningsFrom_183 (lv_at hl 5 rfl) ?_
            refine lv_iload hx hb dX11_turningsFrom_185 (lv_at hl 7 rfl) ?_
            refine st_88 hx hb hH mb64 kb64 (Rg_in r5_172 (by decide)) dX11_turningsFrom_187 (fun I65 H locs eI65 hH => ?_)
            replace hv := fnS hv eI65
            have oI : OkI L C I65 := by rw [eI65]; exact wr_88 oI kb64 (Rg_any x7_172)
            have sm : Sm C ms_X11_turningsFrom (I, J, R) (I65, J, R) := by rw [eI65]; exact sm.stI kb64 (mC_arr (by decide) rfl)
            refine lv_iconst (v := 0) hx hb dX11_turningsFrom_188 (by decide) ?_
            refine lv_istore (lv' := [(9, .int 0), (8, .int xs0_172), (0, .ref a0), (1, .int x1), (2, .int x2_33), (3, .int x3_41), (5, .int x5_172), (6, .int x6_172), (7, .int x7_172)]) hx hb dX11_turningsFrom_189 hl (by decide) rfl (fun ls hl => ?_)
            exact L_191 ((5 - (0 : Int32).toInt).toNat + 1) I65 _ _ _ x5_172 x6_172 0 (Nat.lt_succ_self _) hH hv oI sm r1_172 r2_172 r3_172 r5_172 r6_172 (Rg_w (Rg_c (x := 0) (a := (0)) (b := (0)) (by decide)) (by decide)) (lv_sub hl [2, 3, 4, 5, 6, 7, 0] rfl)
          have L_171 : ∀ (I_171 : hI) (H : Heap) (locs : List Loc) (ls : Array Slot) (x5_171 : Int32) (x6_171 : Int32) (x7_171 : Int32), Hp D cy L C b0 s s.heap I_171 J R H locs → TT0 = F_X11_turningsFrom_171 a0 x1 x2_33 x3_41 (F_X11_turningsFrom_33 a0 x1 n_33) (F_X11_turningsFrom_41 a0 x1 x2_33 (F_X11_turningsFrom_33 a0 x1 n_33) n_41) I_171 J R x5_171 x6_171 x7_171 → OkI L C I_171 → Sm C ms_X11_turningsFrom (I, J, R) (I_171, J, R) → Rg x1 (0) (6) → Rg x2_33 (1) (6) → Rg x3_41 (0) (31) → Rg x5_171 (7) (48) → Rg x6_171 (0) (246) → lv_has ls 10 [(0, .ref a0), (1, .int x1), (2, .int x2_33), (3, .int x3_41), (5, .int x5_171), (6, .int x6_171), (7, .int x7_171)] → W p l e (rmD 1) s m args below meth c H locs 0 0 Q (F0 m 171 ls []) := by
            intro I_171 H locs ls x5_171 x6_171 x7_171 hH hv oI sm r1_171 r2_171 r3_171 r5_171 r6_171 hl
            unfold F_X11_turningsFrom_171 at hv
            refine lv_iconst (v := 0) hx hb dX11_turningsFrom_171 (by decide) ?_
            exact L_172 I_171 _ _ _ 0 x5_171 x6_171 x7_171 hH hv oI sm (Rg_w (Rg_c (x := 0) (a := (0)) (b := (0)) (by decide)) (by decide)) r1_171 r2_171 r3_171 r5_171 r6_171 (lv_sub hl [0, 1, 2, 3, 4, 5, 6] rfl)
          have L_167 : ∀ (I_167 : hI) (H : Heap) (locs : List Loc) (ls : Array Slot) (x5_167 : Int32) (x6_167 : Int32) (x7_167 : Int32), Hp D cy L C b0 s s.heap I_167 J R H locs → TT0 = F_X11_turningsFrom_167 a0 x1 x2_33 x3_41 (F_X11_turningsFrom_33 a0 x1 n_33) (F_X11_turningsFrom_41 a0 x1 x2_33 (F_X11_turningsFrom_33 a0 x1 n_33) n_41) I_167 J R x5_167 x6_167 x7_167 → OkI L C I_167 → Sm C ms_X11_turningsFrom (I, J, R) (I_167, J, R) → Rg x1 (0) (6) → Rg x2_33 (1) (6) → Rg x3_41 (0) (31) → Rg x5_167 (7) (48) → Rg x6_167 (0) (246) → lv_has ls 10 [(0, .ref a0), (1, .int x1), (2, .int x2_33), (3, .int x3_41), (5, .int x5_167), (6, .int x6_167), (7, .int x7_167)] → W p l e (rmD 1) s m args below meth c H locs 0 0 Q (F0 m 167 ls []) := by
            intro I_167 H locs ls x5_167 x6_167 x7_167 hH hv oI sm r1_167 r2_167 r3_167 r5_167 r6_167 hl
            unfold F_X11_turningsFrom_167 at hv
            refine lv_iconst (v := 1) hx hb dX11_turningsFrom_167 (by decide) ?_
            refine lv_goto (tgt := 172) hx hb dX11_turningsFrom_168 (by decide) ?_
            exact L_172 I_167 _ _ _ 1 x5_167 x6_167 x7_167 hH hv oI sm (Rg_w (Rg_c (x := 1) (a := (1)) (b := (1)) (by decide)) (by decide)) r1_167 r2_167 r3_167 r5_167 r6_167 (lv_sub hl [0, 1, 2, 3, 4, 5, 6] rfl)
          refine lv_iload_n hx hb dX11_turningsFrom_41 rfl (lv_at hl 3 rfl) ?_
          refine lv_aload_n hx hb dX11_turningsFrom_42 rfl (lv_at hl 0 rfl) ?_
          refine gf_11_1 hx hb hts hown hH m0 k0 rfl kf_X11_127 dX11_turningsFrom_43 ?_
          refine lv_topi (fun y66 ey66 => ?_)
          have ry66 : Rg y66 (0) (32) := by rw [ey66]; exact rf_11_1 oI m0 k0
          replace hv := fnS hv ey66
          refine lv_icmp_ge (tgt := 249) hx hb dX11_turningsFrom_46 (by decide) (fun q67 => ?_) (fun q67 => ?_)
          · replace hv := fnP hv q67
            obtain ⟨y68, ey68⟩ : ∃ y : Int32, y = x2_33 + 1 := ⟨_, rfl⟩
            replace hv := fnS hv ey68
            obtain ⟨ty68, ry68⟩ := Rg_addx (a' := (2)) (b' := (7)) (rfl : x2_33.toInt = _) (by decide : Int32.toInt 1 = 1) r2_41 (Rg_c (x := 1) (a := (1)) (b := (1)) (by decide)) (by decide)
            rw [← ey68] at ty68 ry68
            refine lv_iinc (v := y68) (lv' := [(2, .int y68), (0, .ref a0), (1, .int x1), (3, .int x3_41)]) hx hb dX11_turningsFrom_249 hl (k := 2) rfl (by rw [ey68]; rfl) (by decide) rfl (fun ls hl => ?_)
            refine lv_goto (tgt := 33) hx hb dX11_turningsFrom_252 (by decide) ?_
            exact ih_33 I_41 _ _ _ y68 (lp_up hn_33 ty68 (Rg_ltc r2_41 (by decide))) hH hv oI sm r1_41 (Rg_w ry68 (by decide)) (lv_sub hl [1, 2, 0] rfl)
          replace hv := fnN hv q67
          have r69 : Rg x3_41 (0) (31) := Rg_ult r3_41 (Rg_nle q67) ry66 (by decide)
          have r70 : Rg y66 (1) (32) := Rg_llt ry66 (Rg_nle q67) r3_41 (by decide)
          refine lv_aload_n hx hb dX11_turningsFrom_49 rfl (lv_at hl 0 rfl) ?_
          obtain ⟨b71, mb71, vb71, kb71⟩ := rf_11_35 oR m0 k0
          replace hv := fnR hv vb71
          refine gf_11_35 vb71 hx hb hts hown hH m0 k0 rfl kf_X11_84 dX11_turningsFrom_50 ?_
          refine lv_bipush (v := 7) hx hb dX11_turningsFrom_53 (by decide) ?_
          refine lv_iload_n hx hb dX11_turningsFrom_55 rfl (lv_at hl 2 rfl) ?_
          refine lv_iconst (v := 1) hx hb dX11_turningsFrom_56 (by decide) ?_
          refine lv_isub hx hb dX11_turningsFrom_57 ?_
          refine lv_topi (fun y72 ey72 => ?_)
          replace hv := fnS hv ey72
          obtain ⟨ty72, ry72⟩ := Rg_subx (a' := (0)) (b' := (5)) (rfl : x2_33.toInt = _) (by decide : Int32.toInt 1 = 1) r2_41 (Rg_c (x := 1) (a := (1)) (b := (1)) (by decide)) (by decide)
          rw [← ey72] at ty72 ry72
          refine lv_imul hx hb dX11_turningsFrom_58 ?_
          refine lv_topi (fun y73 ey73 => ?_)
          replace hv := fnS hv ey73
          obtain ⟨ty73, ry73⟩ := Rg_mulx (a' := (0)) (b' := (35)) (by decide : Int32.toInt 7 = 7) (rfl : y72.toInt = _) (Rg_c (x := 7) (a := (7)) (b := (7)) (by decide)) ry72 (by decide)
          rw [← ey73] at ty73 ry73
          refine lv_aload_n hx hb dX11_turningsFrom_59 rfl (lv_at hl 0 rfl) ?_
          obtain ⟨b74, mb74, vb74, kb74⟩ := rf_11_2 oR m0 k0
          replace hv := fnR hv vb74
          refine gf_11_2 vb74 hx hb hts hown hH m0 k0 rfl kf_X11_7 dX11_turningsFrom_60 ?_
          refine lv_iload_n hx hb dX11_turningsFrom_63 rfl (lv_at hl 3 rfl) ?_
          refine ld_64 hx hb hH mb74 kb74 (Rg_in r69 (by decide)) dX11_turningsFrom_64 ?_
          refine lv_topi (fun y75 ey75 => ?_)
          have ry75 : Rg y75 (0) (6) := by rw [ey75]; exact rd_64 oI mb74 kb74 (Rg_in r69 (by decide))
          replace hv := fnS hv ey75
          refine lv_iadd hx hb dX11_turningsFrom_65 ?_
          refine lv_topi (fun y76 ey76 => ?_)
          replace hv := fnS hv ey76
          obtain ⟨ty76, ry76⟩ := Rg_addx (a' := (0)) (b' := (41)) (rfl : y73.toInt = _) (rfl : y75.toInt = _) ry73 ry75 (by decide)
          rw [← ey76] at ty76 ry76
          refine ld_88 hx hb hH mb71 kb71 (Rg_in ry76 (by decide)) dX11_turningsFrom_66 ?_
          refine lv_topi (fun y77 ey77 => ?_)
          replace hv := fnS hv ey77
          refine lv_istore (lv' := [(4, .int y77), (0, .ref a0), (1, .int x1), (2, .int x2_33), (3, .int x3_41)]) hx hb dX11_turningsFrom_67 hl (by decide) rfl (fun ls hl => ?_)
          refine lv_bipush (v := 7) hx hb dX11_turningsFrom_69 (by decide) ?_
          refine lv_iload_n hx hb dX11_turningsFrom_71 rfl (lv_at hl 3 rfl) ?_
          refine lv_imul hx hb dX11_turningsFrom_72 ?_
          refine lv_topi (fun y78 ey78 => ?_)
          replace hv := fnS hv ey78
          obtain ⟨ty78, ry78⟩ := Rg_mulx (a' := (7)) (b' := (42)) (by decide : Int32.toInt 7 = 7) (rfl : x2_33.toInt = _) (Rg_c (x := 7) (a := (7)) (b := (7)) (by decide)) r2_41 (by decide)
          rw [← ey78] at ty78 ry78
          refine lv_aload_n hx hb dX11_turningsFrom_73 rfl (lv_at hl 1 rfl) ?_
          obtain ⟨b79, mb79, vb79, kb79⟩ := rf_11_3 oR m0 k0
          replace hv := fnR hv vb79
          refine gf_11_3 vb79 hx hb hts hown hH m0 k0 rfl kf_X11_13 dX11_turningsFrom_74 ?_
          refine lv_iload_n hx hb dX11_turningsFrom_77 rfl (lv_at hl 4 rfl) ?_
          refine ld_65 hx hb hH mb79 kb79 (Rg_in r69 (by decide)) dX11_turningsFrom_78 ?_
          refine lv_topi (fun y80 ey80 => ?_)
          have ry80 : Rg y80 (0) (6) := by rw [ey80]; exact rd_65 oI mb79 kb79 (Rg_in r69 (by decide))
          replace hv := fnS hv ey80
          refine lv_iadd hx hb dX11_turningsFrom_79 ?_
          refine lv_topi (fun y81 ey81 => ?_)
          replace hv := fnS hv ey81
          obtain ⟨ty81, ry81⟩ := Rg_addx (a' := (7)) (b' := (48)) (rfl : y78.toInt = _) (rfl : y80.toInt = _) ry78 ry80 (by decide)
          rw [← ey81] at ty81 ry81
          refine lv_istore (lv' := [(5, .int y81), (4, .int y77), (0, .ref a0), (1, .int x1), (2, .int x2_33), (3, .int x3_41)]) hx hb dX11_turningsFrom_80 hl (by decide) rfl (fun ls hl => ?_)
          refine lv_bipush (v := 6) hx hb dX11_turningsFrom_82 (by decide) ?_
          refine lv_bipush (v := 7) hx hb dX11_turningsFrom_84 (by decide) ?_
          refine lv_iload_n hx hb dX11_turningsFrom_86 rfl (lv_at hl 4 rfl) ?_
          refine lv_iconst (v := 1) hx hb dX11_turningsFrom_87 (by decide) ?_
          refine lv_isub hx hb dX11_turningsFrom_88 ?_
          refine lv_topi (fun y82 ey82 => ?_)
          obtain rfl : y72 = y82 := ey72.trans ey82.symm
          refine lv_imul hx hb dX11_turningsFrom_89 ?_
          refine lv_topi (fun y83 ey83 => ?_)
          obtain rfl : y73 = y83 := ey73.trans ey83.symm
          refine lv_aload_n hx hb dX11_turningsFrom_90 rfl (lv_at hl 2 rfl) ?_
          refine gf_11_2 vb74 hx hb hts hown hH m0 k0 rfl kf_X11_7 dX11_turningsFrom_91 ?_
          refine lv_iload_n hx hb dX11_turningsFrom_94 rfl (lv_at hl 5 rfl) ?_
          refine ld_64 hx hb hH mb74 kb74 (Rg_in r69 (by decide)) dX11_turningsFrom_95 ?_
          refine lv_topi (fun y84 ey84 => ?_)
          obtain rfl : y75 = y84 := ey75.trans ey84.symm
          refine lv_iadd hx hb dX11_turningsFrom_96 ?_
          refine lv_topi (fun y85 ey85 => ?_)
          obtain rfl : y76 = y85 := ey76.trans ey85.symm
          refine lv_imul hx hb dX11_turningsFrom_97 ?_
          refine lv_topi (fun y86 ey86 => ?_)
          replace hv := fnS hv ey86
          obtain ⟨ty86, ry86⟩ := Rg_mulx (a' := (0)) (b' := (246)) (by decide : Int32.toInt 6 = 6) (rfl : y76.toInt = _) (Rg_c (x := 6) (a := (6)) (b := (6)) (by decide)) ry76 (by decide)
          rw [← ey86] at ty86 ry86
          refine lv_istore (lv' := [(6, .int y86), (5, .int y81), (4, .int y77), (0, .ref a0), (1, .int x1), (2, .int x2_33), (3, .int x3_41)]) hx hb dX11_turningsFrom_98 hl (by decide) rfl (fun ls hl => ?_)
          refine lv_iload hx hb dX11_turningsFrom_100 (lv_at hl 2 rfl) ?_
          refine lv_aload_n hx hb dX11_turningsFrom_102 rfl (lv_at hl 3 rfl) ?_
          obtain ⟨b87, mb87, vb87, kb87⟩ := rf_11_4 oR m0 k0
          replace hv := fnR hv vb87
          refine gf_11_4 vb87 hx hb hts hown hH m0 k0 rfl kf_X11_16 dX11_turningsFrom_103 ?_
          refine lv_iload_n hx hb dX11_turningsFrom_106 rfl (lv_at hl 6 rfl) ?_
          refine ld_66 hx hb hH mb87 kb87 (Rg_in r69 (by decide)) dX11_turningsFrom_107 ?_
          refine lv_topi (fun y88 ey88 => ?_)
          have ry88 : Rg y88 (0) (50) := by rw [ey88]; exact rd_66 oI mb87 kb87 (Rg_in r69 (by decide))
          replace hv := fnS hv ey88
          refine lv_iadd hx hb dX11_turningsFrom_108 ?_
          refine lv_topi (fun y89 ey89 => ?_)
          replace hv := fnS hv ey89
          refine lv_istore (lv' := [(7, .int y89), (6, .int y86), (5, .int y81), (4, .int y77), (0, .ref a0), (1, .int x1), (2, .int x2_33), (3, .int x3_41)]) hx hb dX11_turningsFrom_109 hl (by decide) rfl (fun ls hl => ?_)
          refine lv_aload_n hx hb dX11_turningsFrom_111 rfl (lv_at hl 4 rfl) ?_
          obtain ⟨b90, mb90, vb90, kb90⟩ := rf_11_7 oR m0 k0
          replace hv := fnR hv vb90
          refine gf_11_7 vb90 hx hb hts hown hH m0 k0 rfl kf_X11_25 dX11_turningsFrom_112 ?_
          refine lv_iload_n hx hb dX11_turningsFrom_115 rfl (lv_at hl 7 rfl) ?_
          refine ld_69 hx hb hH mb90 kb90 (Rg_in r69 (by decide)) dX11_turningsFrom_116 ?_
          refine lv_topi (fun y91 ey91 => ?_)
          have ry91 : Rg y91 (0) (1) := by rw [ey91]; exact rd_69 oI mb90 kb90 (Rg_in r69 (by decide))
          replace hv := fnS hv ey91
          refine lv_if_eq (tgt := 171) hx hb dX11_turningsFrom_117 (by decide) (fun q92 => ?_) (fun q92 => ?_)
          · replace hv := fnP hv q92
            have r93 : Rg y91 (0) (0) := Rg_both ry91 (Rg_eqv q92 (Rg_c (x := 0) (a := (0)) (b := (0)) (by decide))) (by decide)
            exact L_171 I_41 _ _ _ y81 y86 y89 hH hv oI sm r1_41 r2_41 r69 ry81 ry86 (lv_sub hl [4, 5, 6, 7, 2, 1, 0] rfl)
          replace hv := fnN hv q92
          have r94 : Rg y91 (1) (1) := Rg_nelo ry91 (Rg_ne q92) (Rg_c (x := 0) (a := (0)) (b := (0)) (by decide)) (by decide)
          refine lv_iload hx hb dX11_turningsFrom_120 (lv_at hl 3 rfl) ?_
          refine lv_ldc (v := 1000000) hx hb hown (hts _ kk_X11_180) dX11_turningsFrom_122 ?_
          refine lv_icmp_ge (tgt := 171) hx hb dX11_turningsFrom_124 (by decide) (fun q95 => ?_) (fun q95 => ?_)
          · replace hv := fnP hv q95
            have r96 : Rg y77 (1000000) (2147483647) := Rg_lle (Rg_any y77) (Rg_le q95) (Rg_c (x := 1000000) (a := (1000000)) (b := (1000000)) (by decide)) (by decide)
            exact L_171 I_41 _ _ _ y81 y86 y89 hH hv oI sm r1_41 r2_41 r69 ry81 ry86 (lv_sub hl [4, 5, 6, 7, 2, 1, 0] rfl)
          replace hv := fnN hv q95
          have r97 : Rg y77 (-2147483648) (999999) := Rg_ult (Rg_any y77) (Rg_nle q95) (Rg_c (x := 1000000) (a := (1000000)) (b := (1000000)) (by decide)) (by decide)
          refine lv_iload hx hb dX11_turningsFrom_127 (lv_at hl 0 rfl) ?_
          refine lv_aload_n hx hb dX11_turningsFrom_129 rfl (lv_at hl 4 rfl) ?_
          refine gf_11_35 vb71 hx hb hts hown hH m0 k0 rfl kf_X11_84 dX11_turningsFrom_130 ?_
          refine lv_iload hx hb dX11_turningsFrom_133 (lv_at hl 2 rfl) ?_
          refine ld_88 hx hb hH mb71 kb71 (Rg_in ry81 (by decide)) dX11_turningsFrom_135 ?_
          refine lv_topi (fun y98 ey98 => ?_)
          replace hv := fnS hv ey98
          refine lv_icmp_lt (tgt := 167) hx hb dX11_turningsFrom_136 (by decide) (fun q99 => ?_) (fun q99 => ?_)
          · replace hv := fnP hv q99
            have r100 : Rg y89 (-2147483648) (2147483646) := Rg_ult (Rg_any y89) (Rg_lt q99) (Rg_any y98) (by decide)
            have r101 : Rg y98 (-2147483647) (2147483647) := Rg_llt (Rg_any y98) (Rg_lt q99) (Rg_any y89) (by decide)
            exact L_167 I_41 _ _ _ y81 y86 y89 hH hv oI sm r1_41 r2_41 r69 ry81 ry86 (lv_sub hl [4, 5, 6, 7, 2, 1, 0] rfl)
          replace hv := fnN hv q99
          refine lv_iload hx hb dX11_turningsFrom_139 (lv_at hl 0 rfl) ?_
          refine lv_aload_n hx hb dX11_turningsFrom_141 rfl (lv_at hl 4 rfl) ?_
          refine gf_11_35 vb71 hx hb hts hown hH m0 k0 rfl kf_X11_84 dX11_turningsFrom_142 ?_
          refine lv_iload hx hb dX11_turningsFrom_145 (lv_at hl 2 rfl) ?_
          refine ld_88 hx hb hH mb71 kb71 (Rg_in ry81 (by decide)) dX11_turningsFrom_147 ?_
          refine lv_topi (fun y102 ey102 => ?_)
          obtain rfl : y98 = y102 := ey98.trans ey102.symm
          refine lv_icmp_ne (tgt := 171) hx hb dX11_turningsFrom_148 (by decide) (fun q103 => ?_) (fun q103 => ?_)
          · replace hv := fnN hv q103
            exact L_171 I_41 _ _ _ y81 y86 y89 hH hv oI sm r1_41 r2_41 r69 ry81 ry86 (lv_sub hl [4, 5, 6, 7, 2, 1, 0] rfl)
          replace hv := fnP hv q103
          refine lv_aload_n hx hb dX11_turningsFrom_151 rfl (lv_at hl 4 rfl) ?_
          refine lv_iload hx hb dX11_turningsFrom_152 (lv_at hl 1 rfl) ?_
          refine lv_iload_n hx hb dX11_turningsFrom_154 rfl (lv_at hl 7 rfl) ?_
          refine lv_bipush (v := 6) hx hb dX11_turningsFrom_155 (by decide) ?_
          refine lv_iload hx hb dX11_turningsFrom_157 (lv_at hl 2 rfl) ?_
          refine lv_imul hx hb dX11_turningsFrom_159 ?_
          refine lv_topi (fun y104 ey104 => ?_)
          replace hv := fnS hv ey104
          obtain ⟨ty104, ry104⟩ := Rg_mulx (a' := (42)) (b' := (288)) (by decide : Int32.toInt 6 = 6) (rfl : y81.toInt = _) (Rg_c (x := 6) (a := (6)) (b := (6)) (by decide)) ry81 (by decide)
          rw [← ey104] at ty104 ry104
          refine lv_iload_n hx hb dX11_turningsFrom_160 rfl (lv_at hl 6 rfl) ?_
          refine ca_X11_181 hx hb hml hown hts hH (c_X11_isAhead oI oR m0 k0 (Rg_w ry86 (by decide)) r69 (Rg_w ry104 (by decide)) r2_41) hl.1 m0 k0 rfl (by decide) (Nat.le_of_ble_eq_true rfl) ⟨Nat.zero_le _, Nat.zero_le _⟩ dX11_turningsFrom_161 (fun y105 I105 J105 R105 H locs hp hH => ?_)
          obtain ⟨eI105, eJ105, eR105, ry105, hf105⟩ := hp
          obtain rfl : I_41 = I105 := eI105.symm
          obtain rfl : J = J105 := eJ105.symm
          obtain rfl : R = R105 := eR105.symm
          replace hv := fnS hv hf105.symm
          refine lv_if_eq (tgt := 171) hx hb dX11_turningsFrom_164 (by decide) (fun q106 => ?_) (fun q106 => ?_)
          · replace hv := fnP hv q106
            have r107 : Rg y105 (0) (0) := Rg_both ry105 (Rg_eqv q106 (Rg_c (x := 0) (a := (0)) (b := (0)) (by decide))) (by decide)
            exact L_171 I_41 _ _ _ y81 y86 y89 hH hv oI sm r1_41 r2_41 r69 ry81 ry86 (lv_sub hl [4, 5, 6, 7, 2, 1, 0] rfl)
          replace hv := fnN hv q106
          have r108 : Rg y105 (1) (1) := Rg_nelo ry105 (Rg_ne q106) (Rg_c (x := 0) (a := (0)) (b := (0)) (by decide)) (by decide)
          exact L_167 I_41 _ _ _ y81 y86 y89 hH hv oI sm r1_41 r2_41 r69 ry81 ry86 (lv_sub hl [4, 5, 6, 7, 2, 1, 0] rfl)
      refine lv_iload_n hx hb dX11_turningsFrom_33 rfl (lv_at hl 2 rfl) ?_
      refine lv_bipush (v := 7) hx hb dX11_turningsFrom_34 (by decide) ?_
      refine lv_icmp_ge (tgt := 255) hx hb dX11_turningsFrom_36 (by decide) (fun q109 => ?_) (fun q109 => ?_)
      · replace hv := fnP hv q109
        have r110 : Rg x2_33 (7) (7) := Rg_lle r2_33 (Rg_le q109) (Rg_c (x := 7) (a := (7)) (b := (7)) (by decide)) (by decide)
        refine lv_iconst (v := 0) hx hb dX11_turningsFrom_255 (by decide) ?_
        refine lv_istore_n (lv' := [(2, .int 0), (0, .ref a0), (1, .int x1)]) hx hb dX11_turningsFrom_256 rfl hl (by decide) rfl (fun ls hl => ?_)
        exact L_257 ((7 - (0 : Int32).toInt).toNat + 1) I_33 _ _ _ 0 (Nat.lt_succ_self _) hH hv oI sm r1_33 (Rg_w (Rg_c (x := 0) (a := (0)) (b := (0)) (by decide)) (by decide)) (lv_sub hl [1, 2, 0] rfl)
      replace hv := fnN hv q109
      have r111 : Rg x2_33 (1) (6) := Rg_ult r2_33 (Rg_nle q109) (Rg_c (x := 7) (a := (7)) (b := (7)) (by decide)) (by decide)
      refine lv_iconst (v := 0) hx hb dX11_turningsFrom_39 (by decide) ?_
      refine lv_istore_n (lv' := [(3, .int 0), (0, .ref a0), (1, .int x1), (2, .int x2_33)]) hx hb dX11_turningsFrom_40 rfl hl (by decide) rfl (fun ls hl => ?_)
      exact L_41 ((32 - (0 : Int32).toInt).toNat + 1) I_33 _ _ _ 0 (Nat.lt_succ_self _) hH hv oI sm r1_33 r111 (Rg_w (Rg_c (x := 0) (a := (0)) (b := (0)) (by decide)) (by decide)) (lv_sub hl [1, 2, 3, 0] rfl)
  have L_2 : ∀ (n_2 : Nat) (I_2 : hI) (H : Heap) (locs : List Loc) (ls : Array Slot) (x2_2 : Int32), (49 - x2_2.toInt).toNat < n_2 → Hp D cy L C b0 s s.heap I_2 J R H locs → TT0 = F_X11_turningsFrom_2 a0 x1 n_2 I_2 J R x2_2 → OkI L C I_2 → Sm C ms_X11_turningsFrom (I, J, R) (I_2, J, R) → Rg x1 (0) (6) → Rg x2_2 (0) (49) → lv_has ls 10 [(0, .ref a0), (1, .int x1), (2, .int x2_2)] → W p l e (rmD 1) s m args below meth c H locs 0 0 Q (F0 m 2 ls []) := by
    intro n_2
    induction n_2 with
    | zero => intro I_2 H locs ls x2_2 h; exact absurd h (Nat.not_lt_zero _)
    | succ n_2 ih_2 =>
      intro I_2 H locs ls x2_2 hn_2 hH hv oI sm r1_2 r2_2 hl
      replace hv := hv.trans F_X11_turningsFrom_2_s
      unfold B_X11_turningsFrom_2 at hv
      have L_24 : ∀ (I_24 : hI) (H : Heap) (locs : List Loc) (ls : Array Slot) (xs0_24 : Int32) (xs2_24 : Nat), Hp D cy L C b0 s s.heap I_24 J R H locs → TT0 = F_X11_turningsFrom_24 a0 x1 x2_2 (F_X11_turningsFrom_2 a0 x1 n_2) I_24 J R xs0_24 xs2_24 → OkI L C I_24 → Sm C ms_X11_turningsFrom (I, J, R) (I_24, J, R) → Rg xs0_24 (0) (1000000) → Rg x2_2 (0) (48) → xs2_24 ∈ L → C xs2_24 = 88 → Rg x1 (0) (6) → Rg x2_2 (0) (48) → lv_has ls 10 [(0, .ref a0), (1, .int x1), (2, .int x2_2)] → W p l e (rmD 1) s m args below meth c H locs 0 0 Q (F0 m 24 ls [.int xs0_24, .int x2_2, .ref xs2_24]) := by
        intro I_24 H locs ls xs0_24 xs2_24 hH hv oI sm rs0_24 rs1_24 ms2_24 ks2_24 r1_24 r2_24 hl
        unfold F_X11_turningsFrom_24 at hv
        refine st_88 hx hb hH ms2_24 ks2_24 (Rg_in rs1_24 (by decide)) dX11_turningsFrom_24 (fun I112 H locs eI112 hH => ?_)
        replace hv := fnS hv eI112
        have oI : OkI L C I112 := by rw [eI112]; exact wr_88 oI ks2_24 (Rg_w rs0_24 (by decide))
        have sm : Sm C ms_X11_turningsFrom (I, J, R) (I112, J, R) := by rw [eI112]; exact sm.stI ks2_24 (mC_arr (by decide) rfl)
        obtain ⟨y113, ey113⟩ : ∃ y : Int32, y = x2_2 + 1 := ⟨_, rfl⟩
        replace hv := fnS hv ey113
        obtain ⟨ty113, ry113⟩ := Rg_addx (a' := (1)) (b' := (49)) (rfl : x2_2.toInt = _) (by decide : Int32.toInt 1 = 1) r2_24 (Rg_c (x := 1) (a := (1)) (b := (1)) (by decide)) (by decide)
        rw [← ey113] at ty113 ry113
        refine lv_iinc (v := y113) (lv' := [(2, .int y113), (0, .ref a0), (1, .int x1)]) hx hb dX11_turningsFrom_25 hl (k := 2) rfl (by rw [ey113]; rfl) (by decide) rfl (fun ls hl => ?_)
        refine lv_goto (tgt := 2) hx hb dX11_turningsFrom_28 (by decide) ?_
        exact ih_2 I112 _ _ _ y113 (lp_up hn_2 ty113 (Rg_ltc r2_24 (by decide))) hH hv oI sm r1_24 (Rg_w ry113 (by decide)) (lv_sub hl [1, 2, 0] rfl)
      refine lv_iload_n hx hb dX11_turningsFrom_2 rfl (lv_at hl 2 rfl) ?_
      refine lv_bipush (v := 49) hx hb dX11_turningsFrom_3 (by decide) ?_
      refine lv_icmp_ge (tgt := 31) hx hb dX11_turningsFrom_5 (by decide) (fun q114 => ?_) (fun q114 => ?_)
      · replace hv := fnP hv q114
        have r115 : Rg x2_2 (49) (49) := Rg_lle r2_2 (Rg_le q114) (Rg_c (x := 49) (a := (49)) (b := (49)) (by decide)) (by decide)
        refine lv_iconst (v := 1) hx hb dX11_turningsFrom_31 (by decide) ?_
        refine lv_istore_n (lv' := [(2, .int 1), (0, .ref a0), (1, .int x1)]) hx hb dX11_turningsFrom_32 rfl hl (by decide) rfl (fun ls hl => ?_)
        exact L_33 ((7 - (1 : Int32).toInt).toNat + 1) I_2 _ _ _ 1 (Nat.lt_succ_self _) hH hv oI sm r1_2 (Rg_w (Rg_c (x := 1) (a := (1)) (b := (1)) (by decide)) (by decide)) (lv_sub hl [1, 2, 0] rfl)
      replace hv := fnN hv q114
      have r116 : Rg x2_2 (0) (48) := Rg_ult r2_2 (Rg_nle q114) (Rg_c (x := 49) (a := (49)) (b := (49)) (by decide)) (by decide)
      refine lv_aload_n hx hb dX11_turningsFrom_8 rfl (lv_at hl 0 rfl) ?_
      obtain ⟨b117, mb117, vb117, kb117⟩ := rf_11_35 oR m0 k0
      replace hv := fnR hv vb117
      refine gf_11_35 vb117 hx hb hts hown hH m0 k0 rfl kf_X11_84 dX11_turningsFrom_9 ?_
      refine lv_iload_n hx hb dX11_turningsFrom_12 rfl (lv_at hl 2 rfl) ?_
      refine lv_iload_n hx hb dX11_turningsFrom_13 rfl (lv_at hl 2 rfl) ?_
      refine lv_iload_n hx hb dX11_turningsFrom_14 rfl (lv_at hl 1 rfl) ?_
      refine lv_icmp_ne (tgt := 22) hx hb dX11_turningsFrom_15 (by decide) (fun q118 => ?_) (fun q118 => ?_)
      · replace hv := fnN hv q118
        refine lv_ldc (v := 1000000) hx hb hown (hts _ kk_X11_180) dX11_turningsFrom_22 ?_
        exact L_24 I_2 _ _ _ 1000000 b117 hH hv oI sm (Rg_w (Rg_c (x := 1000000) (a := (1000000)) (b := (1000000)) (by decide)) (by decide)) r116 mb117 kb117 r1_2 r116 (lv_sub hl [0, 1, 2] rfl)
      replace hv := fnP hv q118
      have r119 : Rg x2_2 (0) (6) := Rg_both r116 (Rg_eqv q118 r1_2) (by decide)
      refine lv_iconst (v := 0) hx hb dX11_turningsFrom_18 (by decide) ?_
      refine lv_goto (tgt := 24) hx hb dX11_turningsFrom_19 (by decide) ?_
      exact L_24 I_2 _ _ _ 0 b117 hH hv oI sm (Rg_w (Rg_c (x := 0) (a := (0)) (b := (0)) (by decide)) (by decide)) (Rg_w r119 (by decide)) mb117 kb117 r1_2 (Rg_w r119 (by decide)) (lv_sub hl [0, 1, 2] rfl)
  exact L_2 ((49 - (0 : Int32).toInt).toNat + 1) I _ _ _ 0 (Nat.lt_succ_self _) hH hv oI sm h1 (Rg_w (Rg_c (x := 0) (a := (0)) (b := (0)) (by decide)) (by decide)) (lv_sub hl [1, 2, 0] rfl)
noncomputable def B_X11_measure_2 (a0 : Nat) (k_2 : hI → hJ → hR → Int32 → (hU)) (I_2 : hI) (J : hJ) (R : hR) (x1_2 : Int32) : hU :=
  (if (7 : Int32) ≤ x1_2 then (I_2, J, R) else nmW (F_X11_turningsFrom a0 x1_2 I_2 J R) fun I4 _ _ => nm (x1_2 + (1 : Int32)) fun y5 => k_2 I4 J R y5)
noncomputable def F_X11_measure_2 (a0 : Nat) : Nat → hI → hJ → hR → Int32 → (hU) := fun n => Nat.rec (motive := fun _ => hI → hJ → hR → Int32 → (hU)) (fun _ _ _ _ => default) (fun _ k => B_X11_measure_2 a0 k) n
theorem F_X11_measure_2_s {a0 : Nat} {n : Nat} {I_2 : hI} {J : hJ} {R : hR} {x1_2 : Int32} : F_X11_measure_2 a0 (n + 1)  I_2 J R x1_2 = B_X11_measure_2 a0 (F_X11_measure_2 a0 n)  I_2 J R x1_2 := rfl
noncomputable def F_X11_measure (a0 : Nat) (I : hI) (J : hJ) (R : hR) : hU :=
  F_X11_measure_2 a0 ((7 - (0 : Int32).toInt).toNat + 1) I J R (0 : Int32)
def ms_X11_measure : List Nat := [5440, 5504, 5568, 5632, 5696]
set_option maxHeartbeats 4000000 in
set_option maxRecDepth 100000 in
theorem c_X11_measure {l : Launch} {D : va_G} {cy : Nat → ClassId} {L : List Nat} {C : Nat → Nat} {b0 : Nat} {I : hI} {J : hJ} {R : hR} {a0 : Nat} (oI : OkI L C I) (oR : OkR L C R) (m0 : a0 ∈ L) (k0 : C a0 = 11) : CV l yX11_measure cX11_measure 2 2 D cy L C b0 [.ref a0] (I, J, R) (fun v => Ps L C ms_X11_measure (I, J, R) v ∧ v.2.1 = J ∧ v.2.2 = R ∧ F_X11_measure a0 I J R = v) := by
  refine CV.mk (plainFor_of_name (by decide)) (Nat.le_of_ble_eq_true rfl) ?_
  intro p e s m args below meth c ls Q hF ret hH hl
  obtain ⟨hx, hb, -, hml, hown, hts, -⟩ := hF
  have hl : lv_has ls 2 [(0, .ref a0)] := hl
  have hH : Hp D cy L C b0 s s.heap I J R s.heap [] := hH
  have sm : Sm C ms_X11_measure (I, J, R) (I, J, R) := Sm.rf
  obtain ⟨TT0, hT⟩ : ∃ TT0, TT0 = F_X11_measure a0 I J R := ⟨_, rfl⟩
  have hv := hT
  unfold F_X11_measure at hv
  refine lv_iconst (v := 0) hx hb dX11_measure_0 (by decide) ?_
  refine lv_istore_n (lv' := [(1, .int 0), (0, .ref a0)]) hx hb dX11_measure_1 rfl hl (by decide) rfl (fun ls hl => ?_)
  have L_2 : ∀ (n_2 : Nat) (I_2 : hI) (H : Heap) (locs : List Loc) (ls : Array Slot) (x1_2 : Int32), (7 - x1_2.toInt).toNat < n_2 → Hp D cy L C b0 s s.heap I_2 J R H locs → TT0 = F_X11_measure_2 a0 n_2 I_2 J R x1_2 → OkI L C I_2 → Sm C ms_X11_measure (I, J, R) (I_2, J, R) → Rg x1_2 (0) (7) → lv_has ls 2 [(0, .ref a0), (1, .int x1_2)] → W p l e (rmD 2) s m args below meth c H locs 0 0 Q (F0 m 2 ls []) := by
    intro n_2
    induction n_2 with
    | zero => intro I_2 H locs ls x1_2 h; exact absurd h (Nat.not_lt_zero _)
    | succ n_2 ih_2 =>
      intro I_2 H locs ls x1_2 hn_2 hH hv oI sm r1_2 hl
      replace hv := hv.trans F_X11_measure_2_s
      unfold B_X11_measure_2 at hv
      refine lv_iload_n hx hb dX11_measure_2 rfl (lv_at hl 1 rfl) ?_
      refine lv_bipush (v := 7) hx hb dX11_measure_3 (by decide) ?_
      refine lv_icmp_ge (tgt := 19) hx hb dX11_measure_5 (by decide) (fun q1 => ?_) (fun q1 => ?_)
      · replace hv := fnP hv q1
        have r2 : Rg x1_2 (7) (7) := Rg_lle r1_2 (Rg_le q1) (Rg_c (x := 7) (a := (7)) (b := (7)) (by decide)) (by decide)
        exact ret _ _ _ _ _ _ _ dX11_measure_19 hH ⟨⟨oI, oR, sm⟩, rfl, rfl, (hT.symm.trans hv)⟩
      replace hv := fnN hv q1
      have r3 : Rg x1_2 (0) (6) := Rg_ult r1_2 (Rg_nle q1) (Rg_c (x := 7) (a := (7)) (b := (7)) (by decide)) (by decide)
      refine lv_aload_n hx hb dX11_measure_8 rfl (lv_at hl 0 rfl) ?_
      refine lv_iload_n hx hb dX11_measure_9 rfl (lv_at hl 1 rfl) ?_
      refine ca_X11_185 hx hb hml hown hts hH (c_X11_turningsFrom oI oR m0 k0 r3) hl.1 m0 k0 rfl (by decide) (Nat.le_of_ble_eq_true rfl) ⟨Nat.zero_le _, Nat.zero_le _⟩ dX11_measure_10 (fun I4 J4 R4 H locs hp hH => ?_)
      obtain ⟨⟨oI, -, sc4⟩, eJ4, eR4, hf4⟩ := hp
      obtain rfl : J = J4 := eJ4.symm
      obtain rfl : R = R4 := eR4.symm
      replace hv := fnW hv hf4
      have sm : Sm C ms_X11_measure (I, J, R) (I4, J, R) := sm.tr sc4 rfl
      obtain ⟨y5, ey5⟩ : ∃ y : Int32, y = x1_2 + 1 := ⟨_, rfl⟩
      replace hv := fnS hv ey5
      obtain ⟨ty5, ry5⟩ := Rg_addx (a' := (1)) (b' := (7)) (rfl : x1_2.toInt = _) (by decide : Int32.toInt 1 = 1) r3 (Rg_c (x := 1) (a := (1)) (b := (1)) (by decide)) (by decide)
      rw [← ey5] at ty5 ry5
      refine lv_iinc (v := y5) (lv' := [(1, .int y5), (0, .ref a0)]) hx hb dX11_measure_13 hl (k := 1) rfl (by rw [ey5]; rfl) (by decide) rfl (fun ls hl => ?_)
      refine lv_goto (tgt := 2) hx hb dX11_measure_16 (by decide) ?_
      exact ih_2 I4 _ _ _ y5 (lp_up hn_2 ty5 (Rg_ltc r3 (by decide))) hH hv oI sm (Rg_w ry5 (by decide)) (lv_sub hl [1, 0] rfl)
  exact L_2 ((7 - (0 : Int32).toInt).toNat + 1) I _ _ _ 0 (Nat.lt_succ_self _) hH hv oI sm (Rg_w (Rg_c (x := 0) (a := (0)) (b := (0)) (by decide)) (by decide)) (lv_sub hl [1, 0] rfl)
def ms_X11_turning : List Nat := [704, 5440, 5504, 5568, 5632, 5696]
set_option maxHeartbeats 4000000 in
set_option maxRecDepth 100000 in
theorem c_X11_turning {l : Launch} {D : va_G} {cy : Nat → ClassId} {L : List Nat} {C : Nat → Nat} {b0 : Nat} {I : hI} {J : hJ} {R : hR} {a0 : Nat} {x1 : Int32} {x2 : Int32} {x3 : Int32} (oI : OkI L C I) (oR : OkR L C R) (m0 : a0 ∈ L) (k0 : C a0 = 11) : CI l yX11_turning cX11_turning 5 .int 3 D cy L C b0 [.ref a0, .int x1, .int x2, .int x3] (I, J, R) (fun r v => Ps L C ms_X11_turning (I, J, R) v ∧ v.2.1 = J ∧ v.2.2 = R ∧ Rg r (-2147483648) (999999)) := by
  refine CI.mkI (plainFor_of_name (by decide)) (Nat.le_of_ble_eq_true rfl) ?_
  intro p e s m args below meth c ls Q hF ret hH hl
  obtain ⟨hx, hb, -, hml, hown, hts, -⟩ := hF
  have hl : lv_has ls 5 [(0, .ref a0), (1, .int x1), (2, .int x2), (3, .int x3)] := hl
  have hH : Hp D cy L C b0 s s.heap I J R s.heap [] := hH
  have sm : Sm C ms_X11_turning (I, J, R) (I, J, R) := Sm.rf
  refine lv_aload_n hx hb dX11_turning_0 rfl (lv_at hl 0 rfl) ?_
  refine lv_iconst (v := 0) hx hb dX11_turning_1 (by decide) ?_
  refine pf_11_0 hx hb hts hown hH m0 k0 rfl kf_X11_131 dX11_turning_2 (fun I1 H locs eI1 hH => ?_)
  have oI : OkI L C I1 := by rw [eI1]; exact wf_11_0 oI k0 (Rg_w (Rg_c (x := 0) (a := (0)) (b := (0)) (by decide)) (by decide))
  have sm : Sm C ms_X11_turning (I, J, R) (I1, J, R) := by rw [eI1]; exact sm.stI k0 (mC_obj (by decide) rfl)
  have f2 : 0 = I1 a0 0 := by rw [eI1, u2_at]
  refine lv_iload_n hx hb dX11_turning_5 rfl (lv_at hl 1 rfl) ?_
  refine lv_i2l (v := x1.toInt64) hx hb dX11_turning_6 rfl ?_
  refine lv_lconst (v := 0) hx hb dX11_turning_7 (by decide) ?_
  refine lv_ldc2 (v := 6) hx hb hown (hts _ kkl_X11_150) dX11_turning_8 ?_
  have L_122 : ∀ (I_122 : hI) (H : Heap) (locs : List Loc) (ls : Array Slot) (xs0_122 : Int32), Hp D cy L C b0 s s.heap I_122 J R H locs → OkI L C I_122 → Sm C ms_X11_turning (I, J, R) (I_122, J, R) → Rg xs0_122 (-2147483648) (999999) → lv_has ls 5 [] → W p l e (rmD 3) s m args below meth c H locs 0 0 Q (F0 m 122 ls [.int xs0_122]) := by
    intro I_122 H locs ls xs0_122 hH oI sm rs0_122 hl
    exact ret (xs0_122) _ _ _ _ _ _ _ dX11_turning_122 hH ⟨⟨oI, oR, sm⟩, rfl, rfl, rs0_122⟩
  have L_33 : ∀ (I_33 : hI) (H : Heap) (locs : List Loc) (ls : Array Slot), Hp D cy L C b0 s s.heap I_33 J R H locs → OkI L C I_33 → Sm C ms_X11_turning (I, J, R) (I_33, J, R) → lv_has ls 5 [] → W p l e (rmD 3) s m args below meth c H locs 0 0 Q (F0 m 33 ls []) := by
    intro I_33 H locs ls hH oI sm hl
    refine lv_bipush (v := (-3)) hx hb dX11_turning_33 (by decide) ?_
    exact ret ((-3)) _ _ _ _ _ _ _ dX11_turning_35 hH ⟨⟨oI, oR, sm⟩, rfl, rfl, (Rg_w (Rg_c (x := (-3)) (a := (-3)) (b := (-3)) (by decide)) (by decide))⟩
  refine ca_X11_138 hx hb hml hown hts hH (c_X11_in ) hl.1 (by decide) (Nat.le_of_ble_eq_true rfl) ⟨Nat.zero_le _, Nat.zero_le _⟩ dX11_turning_11 (fun y3 I3 J3 R3 H locs hp hH => ?_)
  obtain ⟨eI3, eJ3, eR3, ry3, hp3, hf3⟩ := hp
  obtain rfl : I1 = I3 := eI3.symm
  obtain rfl : J = J3 := eJ3.symm
  obtain rfl : R = R3 := eR3.symm
  rcases hp3 with ⟨rfl, hq3⟩ | ⟨rfl, hq3⟩
  rotate_left
  · refine lv_if_eq (tgt := 33) hx hb dX11_turning_14 (by decide) (fun q48 => ?_) (fun q48 => ?_)
    · exact L_33 I1 _ _ _ hH oI sm (lv_sub hl [] rfl)
    exact absurd rfl q48
  have l4 : Int32.toInt 0 ≤ x1.toInt := in_cl hq3.1 (by decide)
  have r5 : Rg x1 (0) (2147483647) := Rg_lle (Rg_any x1) l4 (Rg_c (x := 0) (a := (0)) (b := (0)) (by decide)) (by decide)
  have l6 : x1.toInt ≤ Int32.toInt 6 := in_lc hq3.2 (by decide)
  have r7 : Rg x1 (0) (6) := Rg_ule r5 l6 (Rg_c (x := 6) (a := (6)) (b := (6)) (by decide)) (by decide)
  refine lv_if_eq (tgt := 33) hx hb dX11_turning_14 (by decide) (fun q8 => ?_) (fun q8 => ?_)
  · exact absurd q8 (by decide)
  refine lv_iload_n hx hb dX11_turning_17 rfl (lv_at hl 2 rfl) ?_
  refine lv_i2l (v := x2.toInt64) hx hb dX11_turning_18 rfl ?_
  refine lv_lconst (v := 0) hx hb dX11_turning_19 (by decide) ?_
  refine lv_ldc2 (v := 6) hx hb hown (hts _ kkl_X11_150) dX11_turning_20 ?_
  refine ca_X11_138 hx hb hml hown hts hH (c_X11_in ) hl.1 (by decide) (Nat.le_of_ble_eq_true rfl) ⟨Nat.zero_le _, Nat.zero_le _⟩ dX11_turning_23 (fun y9 I9 J9 R9 H locs hp hH => ?_)
  obtain ⟨eI9, eJ9, eR9, ry9, hp9, hf9⟩ := hp
  obtain rfl : I1 = I9 := eI9.symm
  obtain rfl : J = J9 := eJ9.symm
  obtain rfl : R = R9 := eR9.symm
  rcases hp9 with ⟨rfl, hq9⟩ | ⟨rfl, hq9⟩
  rotate_left
  · refine lv_if_eq (tgt := 33) hx hb dX11_turning_26 (by decide) (fun q47 => ?_) (fun q47 => ?_)
    · exact L_33 I1 _ _ _ hH oI sm (lv_sub hl [] rfl)
    exact absurd rfl q47
  have l10 : Int32.toInt 0 ≤ x2.toInt := in_cl hq9.1 (by decide)
  have r11 : Rg x2 (0) (2147483647) := Rg_lle (Rg_any x2) l10 (Rg_c (x := 0) (a := (0)) (b := (0)) (by decide)) (by decide)
  have l12 : x2.toInt ≤ Int32.toInt 6 := in_lc hq9.2 (by decide)
  have r13 : Rg x2 (0) (6) := Rg_ule r11 l12 (Rg_c (x := 6) (a := (6)) (b := (6)) (by decide)) (by decide)
  refine lv_if_eq (tgt := 33) hx hb dX11_turning_26 (by decide) (fun q14 => ?_) (fun q14 => ?_)
  · exact absurd q14 (by decide)
  refine lv_iload_n hx hb dX11_turning_29 rfl (lv_at hl 3 rfl) ?_
  refine lv_if_ge (tgt := 36) hx hb dX11_turning_30 (by decide) (fun q15 => ?_) (fun q15 => ?_)
  rotate_left
  · have r46 : Rg x3 (-2147483648) (-1) := Rg_ult (Rg_any x3) (Rg_nle q15) (Rg_c (x := 0) (a := (0)) (b := (0)) (by decide)) (by decide)
    exact L_33 I1 _ _ _ hH oI sm (lv_sub hl [] rfl)
  have r16 : Rg x3 (0) (2147483647) := Rg_lle (Rg_any x3) (Rg_le q15) (Rg_c (x := 0) (a := (0)) (b := (0)) (by decide)) (by decide)
  refine lv_aload_n hx hb dX11_turning_36 rfl (lv_at hl 0 rfl) ?_
  refine ca_X11_189 hx hb hml hown hts hH (c_X11_measure oI oR m0 k0) hl.1 m0 k0 rfl (by decide) (Nat.le_of_ble_eq_true rfl) ⟨Nat.zero_le _, Nat.zero_le _⟩ dX11_turning_37 (fun I17 J17 R17 H locs hp hH => ?_)
  obtain ⟨⟨oI, -, sc17⟩, eJ17, eR17, hf17⟩ := hp
  obtain rfl : J = J17 := eJ17.symm
  obtain rfl : R = R17 := eR17.symm
  have sm : Sm C ms_X11_turning (I, J, R) (I17, J, R) := sm.tr sc17 rfl
  refine lv_bipush (v := 7) hx hb dX11_turning_40 (by decide) ?_
  refine lv_iload_n hx hb dX11_turning_42 rfl (lv_at hl 1 rfl) ?_
  refine lv_imul hx hb dX11_turning_43 ?_
  refine lv_topi (fun y18 ey18 => ?_)
  obtain ⟨ty18, ry18⟩ := Rg_mulx (a' := (0)) (b' := (42)) (by decide : Int32.toInt 7 = 7) (rfl : x1.toInt = _) (Rg_c (x := 7) (a := (7)) (b := (7)) (by decide)) r7 (by decide)
  rw [← ey18] at ty18 ry18
  refine lv_iload_n hx hb dX11_turning_44 rfl (lv_at hl 2 rfl) ?_
  refine lv_iadd hx hb dX11_turning_45 ?_
  refine lv_topi (fun y19 ey19 => ?_)
  obtain ⟨ty19, ry19⟩ := Rg_addx (a' := (0)) (b' := (48)) (rfl : y18.toInt = _) (rfl : x2.toInt = _) ry18 r13 (by decide)
  rw [← ey19] at ty19 ry19
  refine lv_istore (lv' := [(4, .int y19), (0, .ref a0), (1, .int x1), (2, .int x2), (3, .int x3)]) hx hb dX11_turning_46 hl (by decide) rfl (fun ls hl => ?_)
  refine lv_aload_n hx hb dX11_turning_48 rfl (lv_at hl 1 rfl) ?_
  obtain ⟨b20, mb20, vb20, kb20⟩ := rf_11_32 oR m0 k0
  refine gf_11_32 vb20 hx hb hts hown hH m0 k0 rfl kf_X11_75 dX11_turning_49 ?_
  refine lv_iload hx hb dX11_turning_52 (lv_at hl 0 rfl) ?_
  refine ld_85 hx hb hH mb20 kb20 (Rg_in ry19 (by decide)) dX11_turning_54 ?_
  refine lv_topi (fun y21 ey21 => ?_)
  refine lv_ldc (v := 1000000) hx hb hown (hts _ kk_X11_180) dX11_turning_55 ?_
  refine lv_icmp_lt (tgt := 62) hx hb dX11_turning_57 (by decide) (fun q22 => ?_) (fun q22 => ?_)
  rotate_left
  · have r45 : Rg y21 (1000000) (2147483647) := Rg_lle (Rg_any y21) (Rg_nlt q22) (Rg_c (x := 1000000) (a := (1000000)) (b := (1000000)) (by decide)) (by decide)
    refine lv_iconst (v := (-1)) hx hb dX11_turning_60 (by decide) ?_
    exact ret ((-1)) _ _ _ _ _ _ _ dX11_turning_61 hH ⟨⟨oI, oR, sm⟩, rfl, rfl, (Rg_w (Rg_c (x := (-1)) (a := (-1)) (b := (-1)) (by decide)) (by decide))⟩
  have r23 : Rg y21 (-2147483648) (999999) := Rg_ult (Rg_any y21) (Rg_lt q22) (Rg_c (x := 1000000) (a := (1000000)) (b := (1000000)) (by decide)) (by decide)
  refine lv_iload_n hx hb dX11_turning_62 rfl (lv_at hl 4 rfl) ?_
  refine lv_if_ne (tgt := 76) hx hb dX11_turning_63 (by decide) (fun q24 => ?_) (fun q24 => ?_)
  rotate_left
  · have r43 : Rg x3 (0) (0) := Rg_both r16 (Rg_eqv q24 (Rg_c (x := 0) (a := (0)) (b := (0)) (by decide))) (by decide)
    refine lv_aload_n hx hb dX11_turning_66 rfl (lv_at hl 1 rfl) ?_
    refine gf_11_32 vb20 hx hb hts hown hH m0 k0 rfl kf_X11_75 dX11_turning_67 ?_
    refine lv_iload hx hb dX11_turning_70 (lv_at hl 0 rfl) ?_
    refine ld_85 hx hb hH mb20 kb20 (Rg_in ry19 (by decide)) dX11_turning_72 ?_
    refine lv_topi (fun y44 ey44 => ?_)
    obtain rfl : y21 = y44 := ey21.trans ey44.symm
    refine lv_goto (tgt := 122) hx hb dX11_turning_73 (by decide) ?_
    exact L_122 I17 _ _ _ y21 hH oI sm r23 (lv_sub hl [] rfl)
  have r25 : Rg x3 (1) (2147483647) := Rg_nelo r16 (Rg_ne q24) (Rg_c (x := 0) (a := (0)) (b := (0)) (by decide)) (by decide)
  refine lv_iload_n hx hb dX11_turning_76 rfl (lv_at hl 4 rfl) ?_
  refine lv_iconst (v := 1) hx hb dX11_turning_77 (by decide) ?_
  refine lv_icmp_ne (tgt := 91) hx hb dX11_turning_78 (by decide) (fun q26 => ?_) (fun q26 => ?_)
  rotate_left
  · have r40 : Rg x3 (1) (1) := Rg_both r25 (Rg_eqv q26 (Rg_c (x := 1) (a := (1)) (b := (1)) (by decide))) (by decide)
    refine lv_aload_n hx hb dX11_turning_81 rfl (lv_at hl 1 rfl) ?_
    obtain ⟨b41, mb41, vb41, kb41⟩ := rf_11_33 oR m0 k0
    refine gf_11_33 vb41 hx hb hts hown hH m0 k0 rfl kf_X11_78 dX11_turning_82 ?_
    refine lv_iload hx hb dX11_turning_85 (lv_at hl 0 rfl) ?_
    refine ld_86 hx hb hH mb41 kb41 (Rg_in ry19 (by decide)) dX11_turning_87 ?_
    refine lv_topi (fun y42 ey42 => ?_)
    have ry42 : Rg y42 (0) (6) := by rw [ey42]; exact rd_86 oI mb41 kb41 (Rg_in ry19 (by decide))
    refine lv_goto (tgt := 122) hx hb dX11_turning_88 (by decide) ?_
    exact L_122 I17 _ _ _ y42 hH oI sm (Rg_w ry42 (by decide)) (lv_sub hl [] rfl)
  have r27 : Rg x3 (2) (2147483647) := Rg_nelo r25 (Rg_ne q26) (Rg_c (x := 1) (a := (1)) (b := (1)) (by decide)) (by decide)
  refine lv_iload_n hx hb dX11_turning_91 rfl (lv_at hl 4 rfl) ?_
  refine lv_iconst (v := 2) hx hb dX11_turning_92 (by decide) ?_
  refine lv_isub hx hb dX11_turning_93 ?_
  refine lv_topi (fun y28 ey28 => ?_)
  obtain ⟨ty28, ry28⟩ := Rg_subx (a' := (0)) (b' := (2147483645)) (rfl : x3.toInt = _) (by decide : Int32.toInt 2 = 2) r27 (Rg_c (x := 2) (a := (2)) (b := (2)) (by decide)) (by decide)
  rw [← ey28] at ty28 ry28
  refine lv_aload_n hx hb dX11_turning_94 rfl (lv_at hl 1 rfl) ?_
  obtain ⟨b29, mb29, vb29, kb29⟩ := rf_11_33 oR m0 k0
  refine gf_11_33 vb29 hx hb hts hown hH m0 k0 rfl kf_X11_78 dX11_turning_95 ?_
  refine lv_iload hx hb dX11_turning_98 (lv_at hl 0 rfl) ?_
  refine ld_86 hx hb hH mb29 kb29 (Rg_in ry19 (by decide)) dX11_turning_100 ?_
  refine lv_topi (fun y30 ey30 => ?_)
  have ry30 : Rg y30 (0) (6) := by rw [ey30]; exact rd_86 oI mb29 kb29 (Rg_in ry19 (by decide))
  refine lv_icmp_ge (tgt := 121) hx hb dX11_turning_101 (by decide) (fun q31 => ?_) (fun q31 => ?_)
  · refine lv_iconst (v := (-1)) hx hb dX11_turning_121 (by decide) ?_
    exact L_122 I17 _ _ _ (-1) hH oI sm (Rg_w (Rg_c (x := (-1)) (a := (-1)) (b := (-1)) (by decide)) (by decide)) (lv_sub hl [] rfl)
  have r32 : Rg y28 (0) (5) := Rg_ult ry28 (Rg_nle q31) ry30 (by decide)
  have r33 : Rg x3 (2) (7) := by have a1 := r32.1; have a2 := r32.2; have a3 := r27.1; have a4 := r27.2; exact ⟨by omega, by omega⟩
  have r34 : Rg y30 (1) (6) := Rg_llt ry30 (Rg_nle q31) ry28 (by decide)
  refine lv_aload_n hx hb dX11_turning_104 rfl (lv_at hl 1 rfl) ?_
  obtain ⟨b35, mb35, vb35, kb35⟩ := rf_11_34 oR m0 k0
  refine gf_11_34 vb35 hx hb hts hown hH m0 k0 rfl kf_X11_81 dX11_turning_105 ?_
  refine lv_bipush (v := 6) hx hb dX11_turning_108 (by decide) ?_
  refine lv_iload hx hb dX11_turning_110 (lv_at hl 0 rfl) ?_
  refine lv_imul hx hb dX11_turning_112 ?_
  refine lv_topi (fun y36 ey36 => ?_)
  obtain ⟨ty36, ry36⟩ := Rg_mulx (a' := (0)) (b' := (288)) (by decide : Int32.toInt 6 = 6) (rfl : y19.toInt = _) (Rg_c (x := 6) (a := (6)) (b := (6)) (by decide)) ry19 (by decide)
  rw [← ey36] at ty36 ry36
  refine lv_iload_n hx hb dX11_turning_113 rfl (lv_at hl 4 rfl) ?_
  refine lv_iadd hx hb dX11_turning_114 ?_
  refine lv_topi (fun y37 ey37 => ?_)
  obtain ⟨ty37, ry37⟩ := Rg_addx (a' := (2)) (b' := (295)) (rfl : y36.toInt = _) (rfl : x3.toInt = _) ry36 r33 (by decide)
  rw [← ey37] at ty37 ry37
  refine lv_iconst (v := 2) hx hb dX11_turning_115 (by decide) ?_
  refine lv_isub hx hb dX11_turning_116 ?_
  refine lv_topi (fun y38 ey38 => ?_)
  obtain ⟨ty38, ry38⟩ := Rg_subx (a' := (0)) (b' := (293)) (rfl : y37.toInt = _) (by decide : Int32.toInt 2 = 2) ry37 (Rg_c (x := 2) (a := (2)) (b := (2)) (by decide)) (by decide)
  rw [← ey38] at ty38 ry38
  refine ld_87 hx hb hH mb35 kb35 (Rg_in ry38 (by decide)) dX11_turning_117 ?_
  refine lv_topi (fun y39 ey39 => ?_)
  have ry39 : Rg y39 (0) (31) := by rw [ey39]; exact rd_87 oI mb35 kb35 (Rg_in ry38 (by decide))
  refine lv_goto (tgt := 122) hx hb dX11_turning_118 (by decide) ?_
  exact L_122 I17 _ _ _ y39 hH oI sm (Rg_w ry39 (by decide)) (lv_sub hl [] rfl)
noncomputable def B_X11_turnIt_16 (a0 : Nat) (x1 : Int32) (x2 : Int32) (x3 : Int64) (x4 : Int32) (y2 : Int32) (y1 : Int32) (k_16 : hI → hJ → hR → Int32 → (Int32 × hU)) (I_16 : hI) (J_16 : hJ) (R : hR) (x7_16 : Int32) : Int32 × hU :=
  nm ((R a0 33).getD 0) fun b4 => nm (I_16 b4 (Int32.toNatClampNeg y2)) fun y5 => (if y5 ≤ x7_16 then ((1 : Int32), (I_16, J_16, R)) else nm ((R a0 34).getD 0) fun b9 => nm ((6 : Int32) * y2) fun y10 => nm (y10 + x7_16) fun y11 => nm (I_16 b9 (Int32.toNatClampNeg y11)) fun y12 => nm (J_16 a0 37) fun w13 => nmU (F_X11_apply a0 y12 w13 I_16 J_16 R) fun y14 _ J14 _ => (if y14 = (0 : Int32) then nmW (F_X11_fail a0 x4 y12 I_16 J14 R) fun I21 _ _ => ((0 : Int32), (I21, J14, R)) else nm (J14 a0 31) fun w17 => nm (u2 J14 a0 37 w17) fun J18 => nm (x7_16 + (1 : Int32)) fun y19 => k_16 I_16 J18 R y19))
noncomputable def F_X11_turnIt_16 (a0 : Nat) (x1 : Int32) (x2 : Int32) (x3 : Int64) (x4 : Int32) (y2 : Int32) (y1 : Int32) : Nat → hI → hJ → hR → Int32 → (Int32 × hU) := fun n => Nat.rec (motive := fun _ => hI → hJ → hR → Int32 → (Int32 × hU)) (fun _ _ _ _ => default) (fun _ k => B_X11_turnIt_16 a0 x1 x2 x3 x4 y2 y1 k) n
theorem F_X11_turnIt_16_s {a0 : Nat} {x1 : Int32} {x2 : Int32} {x3 : Int64} {x4 : Int32} {y2 : Int32} {y1 : Int32} {n : Nat} {I_16 : hI} {J_16 : hJ} {R : hR} {x7_16 : Int32} : F_X11_turnIt_16 a0 x1 x2 x3 x4 y2 y1 (n + 1)  I_16 J_16 R x7_16 = B_X11_turnIt_16 a0 x1 x2 x3 x4 y2 y1 (F_X11_turnIt_16 a0 x1 x2 x3 x4 y2 y1 n)  I_16 J_16 R x7_16 := rfl
noncomputable def F_X11_turnIt (a0 : Nat) (x1 : Int32) (x2 : Int32) (x3 : Int64) (x4 : Int32) (I : hI) (J : hJ) (R : hR) : Int32 × hU :=
  nm ((7 : Int32) * x1) fun y1 => nm (y1 + x2) fun y2 => nm (u2 J a0 37 x3) fun J3 => F_X11_turnIt_16 a0 x1 x2 x3 x4 y2 y1 ((6 - (0 : Int32).toInt).toNat + 1) I J3 R (0 : Int32)
def ms_X11_turnIt : List Nat := [730, 731, 732, 735, 741]
set_option maxHeartbeats 4000000 in
set_option maxRecDepth 100000 in
theorem c_X11_turnIt {l : Launch} {D : va_G} {cy : Nat → ClassId} {L : List Nat} {C : Nat → Nat} {b0 : Nat} {I : hI} {J : hJ} {R : hR} {a0 : Nat} {x1 : Int32} {x2 : Int32} {x3 : Int64} {x4 : Int32} (oI : OkI L C I) (oR : OkR L C R) (m0 : a0 ∈ L) (k0 : C a0 = 11) (h1 : Rg x1 (0) (6)) (h2 : Rg x2 (0) (6)) : CI l yX11_turnIt cX11_turnIt 9 .boolean 3 D cy L C b0 [.ref a0, .int x1, .int x2, .long x3, .int x4] (I, J, R) (fun r v => Ps L C ms_X11_turnIt (I, J, R) v ∧ v.2.2 = R ∧ Rg r (0) (1) ∧ F_X11_turnIt a0 x1 x2 x3 x4 I J R = (r, v)) := by
  refine CI.mkZ (plainFor_of_name (by decide)) (Nat.le_of_ble_eq_true rfl) ?_
  intro p e s m args below meth c ls Q hF ret hH hl
  obtain ⟨hx, hb, -, hml, hown, hts, -⟩ := hF
  have hl : lv_has ls 9 [(0, .ref a0), (1, .int x1), (2, .int x2), (3, .long x3), (5, .int x4)] := hl
  have hH : Hp D cy L C b0 s s.heap I J R s.heap [] := hH
  have sm : Sm C ms_X11_turnIt (I, J, R) (I, J, R) := Sm.rf
  obtain ⟨TT0, hT⟩ : ∃ TT0, TT0 = F_X11_turnIt a0 x1 x2 x3 x4 I J R := ⟨_, rfl⟩
  have hv := hT
  unfold F_X11_turnIt at hv
  refine lv_bipush (v := 7) hx hb dX11_turnIt_0 (by decide) ?_
  refine lv_iload_n hx hb dX11_turnIt_2 rfl (lv_at hl 1 rfl) ?_
  refine lv_imul hx hb dX11_turnIt_3 ?_
  refine lv_topi (fun y1 ey1 => ?_)
  replace hv := fnS hv ey1
  obtain ⟨ty1, ry1⟩ := Rg_mulx (a' := (0)) (b' := (42)) (by decide : Int32.toInt 7 = 7) (rfl : x1.toInt = _) (Rg_c (x := 7) (a := (7)) (b := (7)) (by decide)) h1 (by decide)
  rw [← ey1] at ty1 ry1
  refine lv_iload_n hx hb dX11_turnIt_4 rfl (lv_at hl 2 rfl) ?_
  refine lv_iadd hx hb dX11_turnIt_5 ?_
  refine lv_topi (fun y2 ey2 => ?_)
  replace hv := fnS hv ey2
  obtain ⟨ty2, ry2⟩ := Rg_addx (a' := (0)) (b' := (48)) (rfl : y1.toInt = _) (rfl : x2.toInt = _) ry1 h2 (by decide)
  rw [← ey2] at ty2 ry2
  refine lv_istore (lv' := [(6, .int y2), (0, .ref a0), (1, .int x1), (2, .int x2), (3, .long x3), (5, .int x4)]) hx hb dX11_turnIt_6 hl (by decide) rfl (fun ls hl => ?_)
  refine lv_aload_n hx hb dX11_turnIt_8 rfl (lv_at hl 1 rfl) ?_
  refine lv_lload_n hx hb dX11_turnIt_9 rfl (lv_at hl 4 rfl) ?_
  refine pf_11_37 hx hb hts hown hH m0 k0 rfl kf_X11_202 dX11_turnIt_10 (fun J3 H locs eJ3 hH => ?_)
  replace hv := fnS hv eJ3
  have sm : Sm C ms_X11_turnIt (I, J, R) (I, J3, R) := by rw [eJ3]; exact sm.stJ k0 (mC_obj (by decide) rfl)
  refine lv_iconst (v := 0) hx hb dX11_turnIt_13 (by decide) ?_
  refine lv_istore (lv' := [(7, .int 0), (6, .int y2), (0, .ref a0), (1, .int x1), (2, .int x2), (3, .long x3), (5, .int x4)]) hx hb dX11_turnIt_14 hl (by decide) rfl (fun ls hl => ?_)
  have L_16 : ∀ (n_16 : Nat) (I_16 : hI) (J_16 : hJ) (H : Heap) (locs : List Loc) (ls : Array Slot) (x7_16 : Int32), (6 - x7_16.toInt).toNat < n_16 → Hp D cy L C b0 s s.heap I_16 J_16 R H locs → TT0 = F_X11_turnIt_16 a0 x1 x2 x3 x4 y2 y1 n_16 I_16 J_16 R x7_16 → OkI L C I_16 → Sm C ms_X11_turnIt (I, J, R) (I_16, J_16, R) → Rg y2 (0) (48) → Rg x7_16 (0) (6) → lv_has ls 9 [(0, .ref a0), (5, .int x4), (6, .int y2), (7, .int x7_16)] → W p l e (rmD 3) s m args below meth c H locs 0 0 Q (F0 m 16 ls []) := by
    intro n_16
    induction n_16 with
    | zero => intro I_16 J_16 H locs ls x7_16 h; exact absurd h (Nat.not_lt_zero _)
    | succ n_16 ih_16 =>
      intro I_16 J_16 H locs ls x7_16 hn_16 hH hv oI sm r6_16 r7_16 hl
      replace hv := hv.trans F_X11_turnIt_16_s
      unfold B_X11_turnIt_16 at hv
      refine lv_iload hx hb dX11_turnIt_16 (lv_at hl 3 rfl) ?_
      refine lv_aload_n hx hb dX11_turnIt_18 rfl (lv_at hl 0 rfl) ?_
      obtain ⟨b4, mb4, vb4, kb4⟩ := rf_11_33 oR m0 k0
      replace hv := fnR hv vb4
      refine gf_11_33 vb4 hx hb hts hown hH m0 k0 rfl kf_X11_78 dX11_turnIt_19 ?_
      refine lv_iload hx hb dX11_turnIt_22 (lv_at hl 2 rfl) ?_
      refine ld_86 hx hb hH mb4 kb4 (Rg_in r6_16 (by decide)) dX11_turnIt_24 ?_
      refine lv_topi (fun y5 ey5 => ?_)
      have ry5 : Rg y5 (0) (6) := by rw [ey5]; exact rd_86 oI mb4 kb4 (Rg_in r6_16 (by decide))
      replace hv := fnS hv ey5
      refine lv_icmp_ge (tgt := 80) hx hb dX11_turnIt_25 (by decide) (fun q6 => ?_) (fun q6 => ?_)
      · replace hv := fnP hv q6
        refine lv_iconst (v := 1) hx hb dX11_turnIt_80 (by decide) ?_
        exact ret (1) _ _ _ _ _ _ _ dX11_turnIt_81 hH (Rg_01 (Rg_w (Rg_c (x := 1) (a := (1)) (b := (1)) (by decide)) (by decide))) ⟨⟨oI, oR, sm⟩, rfl, (Rg_w (Rg_c (x := 1) (a := (1)) (b := (1)) (by decide)) (by decide)), (hT.symm.trans hv)⟩
      replace hv := fnN hv q6
      have r7 : Rg x7_16 (0) (5) := Rg_ult r7_16 (Rg_nle q6) ry5 (by decide)
      have r8 : Rg y5 (1) (6) := Rg_llt ry5 (Rg_nle q6) r7_16 (by decide)
      refine lv_aload_n hx hb dX11_turnIt_28 rfl (lv_at hl 0 rfl) ?_
      obtain ⟨b9, mb9, vb9, kb9⟩ := rf_11_34 oR m0 k0
      replace hv := fnR hv vb9
      refine gf_11_34 vb9 hx hb hts hown hH m0 k0 rfl kf_X11_81 dX11_turnIt_29 ?_
      refine lv_bipush (v := 6) hx hb dX11_turnIt_32 (by decide) ?_
      refine lv_iload hx hb dX11_turnIt_34 (lv_at hl 2 rfl) ?_
      refine lv_imul hx hb dX11_turnIt_36 ?_
      refine lv_topi (fun y10 ey10 => ?_)
      replace hv := fnS hv ey10
      obtain ⟨ty10, ry10⟩ := Rg_mulx (a' := (0)) (b' := (288)) (by decide : Int32.toInt 6 = 6) (rfl : y2.toInt = _) (Rg_c (x := 6) (a := (6)) (b := (6)) (by decide)) r6_16 (by decide)
      rw [← ey10] at ty10 ry10
      refine lv_iload hx hb dX11_turnIt_37 (lv_at hl 3 rfl) ?_
      refine lv_iadd hx hb dX11_turnIt_39 ?_
      refine lv_topi (fun y11 ey11 => ?_)
      replace hv := fnS hv ey11
      obtain ⟨ty11, ry11⟩ := Rg_addx (a' := (0)) (b' := (293)) (rfl : y10.toInt = _) (rfl : x7_16.toInt = _) ry10 r7 (by decide)
      rw [← ey11] at ty11 ry11
      refine ld_87 hx hb hH mb9 kb9 (Rg_in ry11 (by decide)) dX11_turnIt_40 ?_
      refine lv_topi (fun y12 ey12 => ?_)
      have ry12 : Rg y12 (0) (31) := by rw [ey12]; exact rd_87 oI mb9 kb9 (Rg_in ry11 (by decide))
      replace hv := fnS hv ey12
      refine lv_istore (lv' := [(8, .int y12), (0, .ref a0), (5, .int x4), (6, .int y2), (7, .int x7_16)]) hx hb dX11_turnIt_41 hl (by decide) rfl (fun ls hl => ?_)
      refine lv_aload_n hx hb dX11_turnIt_43 rfl (lv_at hl 1 rfl) ?_
      refine lv_iload hx hb dX11_turnIt_44 (lv_at hl 0 rfl) ?_
      refine lv_aload_n hx hb dX11_turnIt_46 rfl (lv_at hl 1 rfl) ?_
      refine gf_11_37 hx hb hts hown hH m0 k0 rfl kf_X11_202 dX11_turnIt_47 ?_
      refine lv_topl (fun w13 ew13 => ?_)
      replace hv := fnS hv ew13
      refine ca_X11_205 hx hb hml hown hts hH (c_X11_apply oI oR m0 k0 ry12) hl.1 m0 k0 rfl (by decide) (Nat.le_of_ble_eq_true rfl) ⟨Nat.zero_le _, Nat.zero_le _⟩ dX11_turnIt_50 (fun y14 I14 J14 R14 H locs hp hH => ?_)
      obtain ⟨⟨-, -, sc14⟩, eI14, eR14, ry14, hf14⟩ := hp
      obtain rfl : I_16 = I14 := eI14.symm
      obtain rfl : R = R14 := eR14.symm
      replace hv := fnC hv hf14
      have sm : Sm C ms_X11_turnIt (I, J, R) (I_16, J14, R) := sm.tr sc14 rfl
      refine lv_if_ne (tgt := 66) hx hb dX11_turnIt_53 (by decide) (fun q15 => ?_) (fun q15 => ?_)
      rotate_left
      · replace hv := fnP hv q15
        have r20 : Rg y14 (0) (0) := Rg_both ry14 (Rg_eqv q15 (Rg_c (x := 0) (a := (0)) (b := (0)) (by decide))) (by decide)
        refine lv_aload_n hx hb dX11_turnIt_56 rfl (lv_at hl 1 rfl) ?_
        refine lv_iload hx hb dX11_turnIt_57 (lv_at hl 2 rfl) ?_
        refine lv_iload hx hb dX11_turnIt_59 (lv_at hl 0 rfl) ?_
        refine ca_X11_208 hx hb hml hown hts hH (c_X11_fail oI oR m0 k0) hl.1 m0 k0 rfl (by decide) (Nat.le_of_ble_eq_true rfl) ⟨Nat.zero_le _, Nat.zero_le _⟩ dX11_turnIt_61 (fun I21 J21 R21 H locs hp hH => ?_)
        obtain ⟨⟨oI, -, sc21⟩, eJ21, eR21, hf21⟩ := hp
        obtain rfl : J14 = J21 := eJ21.symm
        obtain rfl : R = R21 := eR21.symm
        replace hv := fnW hv hf21
        have sm : Sm C ms_X11_turnIt (I, J, R) (I21, J14, R) := sm.tr sc21 rfl
        refine lv_iconst (v := 0) hx hb dX11_turnIt_64 (by decide) ?_
        exact ret (0) _ _ _ _ _ _ _ dX11_turnIt_65 hH (Rg_01 (Rg_w (Rg_c (x := 0) (a := (0)) (b := (0)) (by decide)) (by decide))) ⟨⟨oI, oR, sm⟩, rfl, (Rg_w (Rg_c (x := 0) (a := (0)) (b := (0)) (by decide)) (by decide)), (hT.symm.trans hv)⟩
      replace hv := fnN hv q15
      have r16 : Rg y14 (1) (1) := Rg_nelo ry14 (Rg_ne q15) (Rg_c (x := 0) (a := (0)) (b := (0)) (by decide)) (by decide)
      refine lv_aload_n hx hb dX11_turnIt_66 rfl (lv_at hl 1 rfl) ?_
      refine lv_aload_n hx hb dX11_turnIt_67 rfl (lv_at hl 1 rfl) ?_
      refine gf_11_31 hx hb hts hown hH m0 k0 rfl kf_X11_158 dX11_turnIt_68 ?_
      refine lv_topl (fun w17 ew17 => ?_)
      replace hv := fnS hv ew17
      refine pf_11_37 hx hb hts hown hH m0 k0 rfl kf_X11_202 dX11_turnIt_71 (fun J18 H locs eJ18 hH => ?_)
      replace hv := fnS hv eJ18
      have sm : Sm C ms_X11_turnIt (I, J, R) (I_16, J18, R) := by rw [eJ18]; exact sm.stJ k0 (mC_obj (by decide) rfl)
      obtain ⟨y19, ey19⟩ : ∃ y : Int32, y = x7_16 + 1 := ⟨_, rfl⟩
      replace hv := fnS hv ey19
      obtain ⟨ty19, ry19⟩ := Rg_addx (a' := (1)) (b' := (6)) (rfl : x7_16.toInt = _) (by decide : Int32.toInt 1 = 1) r7 (Rg_c (x := 1) (a := (1)) (b := (1)) (by decide)) (by decide)
      rw [← ey19] at ty19 ry19
      refine lv_iinc (v := y19) (lv' := [(7, .int y19), (8, .int y12), (0, .ref a0), (5, .int x4), (6, .int y2)]) hx hb dX11_turnIt_74 hl (k := 4) rfl (by rw [ey19]; rfl) (by decide) rfl (fun ls hl => ?_)
      refine lv_goto (tgt := 16) hx hb dX11_turnIt_77 (by decide) ?_
      exact ih_16 I_16 J18 _ _ _ y19 (lp_up hn_16 ty19 (Rg_ltc r7 (by decide))) hH hv oI sm r6_16 (Rg_w ry19 (by decide)) (lv_sub hl [2, 3, 4, 0] rfl)
  exact L_16 ((6 - (0 : Int32).toInt).toNat + 1) I J3 _ _ _ 0 (Nat.lt_succ_self _) hH hv oI sm ry2 (Rg_w (Rg_c (x := 0) (a := (0)) (b := (0)) (by decide)) (by decide)) (lv_sub hl [2, 6, 1, 0] rfl)
noncomputable def F_X11_turn_29 (a0 : Nat) (x1 : Int32) (x2 : Int32) (x3 : Int64) (I_29 : hI) (J_29 : hJ) (R : hR) : Int32 × hU :=
  ((-3 : Int32), (I_29, J_29, R))
noncomputable def F_X11_turn (a0 : Nat) (x1 : Int32) (x2 : Int32) (x3 : Int64) (I : hI) (J : hJ) (R : hR) : Int32 × hU :=
  nm (u2 I a0 0 (0 : Int32)) fun I1 => nm (F_X11_in (x1.toInt64) (0 : Int64) (6 : Int64)) fun y3 => (if y3 = (1 : Int32) then nm (F_X11_in (x2.toInt64) (0 : Int64) (6 : Int64)) fun y9 => (if y9 = (1 : Int32) then nmW (F_X11_measure a0 I1 J R) fun I15 _ _ => nm ((R a0 32).getD 0) fun b16 => nm ((7 : Int32) * x1) fun y17 => nm (y17 + x2) fun y18 => nm (I15 b16 (Int32.toNatClampNeg y18)) fun y19 => (if y19 < (1000000 : Int32) then nm (F_X11_isOf x1 x3) fun y22 => (if y22 = (0 : Int32) then nmW (F_X11_fail a0 (0 : Int32) (-1 : Int32) I15 J R) fun I32 _ _ => ((-7 : Int32), (I32, J, R)) else nmU (F_X11_turnIt a0 x1 x2 x3 (1 : Int32) I15 J R) fun y25 I25 J25 _ => (if y25 = (0 : Int32) then ((-7 : Int32), (I25, J25, R)) else nm (J25 a0 37) fun w28 => nm (u2 J25 a0 25 w28) fun J29 => ((0 : Int32), (I25, J29, R)))) else ((-1 : Int32), (I15, J, R))) else F_X11_turn_29 a0 x1 x2 x3 I1 J R) else F_X11_turn_29 a0 x1 x2 x3 I1 J R)
def ms_X11_turn : List Nat := [704, 729, 730, 731, 732, 735, 741, 5440, 5504, 5568, 5632, 5696]
set_option maxHeartbeats 4000000 in
set_option maxRecDepth 100000 in
theorem c_X11_turn {l : Launch} {D : va_G} {cy : Nat → ClassId} {L : List Nat} {C : Nat → Nat} {b0 : Nat} {I : hI} {J : hJ} {R : hR} {a0 : Nat} {x1 : Int32} {x2 : Int32} {x3 : Int64} (oI : OkI L C I) (oR : OkR L C R) (m0 : a0 ∈ L) (k0 : C a0 = 11) : CI l yX11_turn cX11_turn 5 .int 4 D cy L C b0 [.ref a0, .int x1, .int x2, .long x3] (I, J, R) (fun r v => Ps L C ms_X11_turn (I, J, R) v ∧ v.2.2 = R ∧ Rg r (-7) (0) ∧ F_X11_turn a0 x1 x2 x3 I J R = (r, v)) := by
  refine CI.mkI (plainFor_of_name (by decide)) (Nat.le_of_ble_eq_true rfl) ?_
  intro p e s m args below meth c ls Q hF ret hH hl
  obtain ⟨hx, hb, -, hml, hown, hts, -⟩ := hF
  have hl : lv_has ls 5 [(0, .ref a0), (1, .int x1), (2, .int x2), (3, .long x3)] := hl
  have hH : Hp D cy L C b0 s s.heap I J R s.heap [] := hH
  have sm : Sm C ms_X11_turn (I, J, R) (I, J, R) := Sm.rf
  obtain ⟨TT0, hT⟩ : ∃ TT0, TT0 = F_X11_turn a0 x1 x2 x3 I J R := ⟨_, rfl⟩
  have hv := hT
  unfold F_X11_turn at hv
  refine lv_aload_n hx hb dX11_turn_0 rfl (lv_at hl 0 rfl) ?_
  refine lv_iconst (v := 0) hx hb dX11_turn_1 (by decide) ?_
  refine pf_11_0 hx hb hts hown hH m0 k0 rfl kf_X11_131 dX11_turn_2 (fun I1 H locs eI1 hH => ?_)
  replace hv := fnS hv eI1
  have oI : OkI L C I1 := by rw [eI1]; exact wf_11_0 oI k0 (Rg_w (Rg_c (x := 0) (a := (0)) (b := (0)) (by decide)) (by decide))
  have sm : Sm C ms_X11_turn (I, J, R) (I1, J, R) := by rw [eI1]; exact sm.stI k0 (mC_obj (by decide) rfl)
  have f2 : 0 = I1 a0 0 := by rw [eI1, u2_at]
  refine lv_iload_n hx hb dX11_turn_5 rfl (lv_at hl 1 rfl) ?_
  refine lv_i2l (v := x1.toInt64) hx hb dX11_turn_6 rfl ?_
  refine lv_lconst (v := 0) hx hb dX11_turn_7 (by decide) ?_
  refine lv_ldc2 (v := 6) hx hb hown (hts _ kkl_X11_150) dX11_turn_8 ?_
  have L_29 : ∀ (I_29 : hI) (J_29 : hJ) (H : Heap) (locs : List Loc) (ls : Array Slot), Hp D cy L C b0 s s.heap I_29 J_29 R H locs → TT0 = F_X11_turn_29 a0 x1 x2 x3 I_29 J_29 R → OkI L C I_29 → Sm C ms_X11_turn (I, J, R) (I_29, J_29, R) → lv_has ls 5 [] → W p l e (rmD 4) s m args below meth c H locs 0 0 Q (F0 m 29 ls []) := by
    intro I_29 J_29 H locs ls hH hv oI sm hl
    unfold F_X11_turn_29 at hv
    refine lv_bipush (v := (-3)) hx hb dX11_turn_29 (by decide) ?_
    exact ret ((-3)) _ _ _ _ _ _ _ dX11_turn_31 hH ⟨⟨oI, oR, sm⟩, rfl, (Rg_w (Rg_c (x := (-3)) (a := (-3)) (b := (-3)) (by decide)) (by decide)), (hT.symm.trans hv)⟩
  refine ca_X11_138 hx hb hml hown hts hH (c_X11_in ) hl.1 (by decide) (Nat.le_of_ble_eq_true rfl) ⟨Nat.zero_le _, Nat.zero_le _⟩ dX11_turn_11 (fun y3 I3 J3 R3 H locs hp hH => ?_)
  obtain ⟨eI3, eJ3, eR3, ry3, hp3, hf3⟩ := hp
  obtain rfl : I1 = I3 := eI3.symm
  obtain rfl : J = J3 := eJ3.symm
  obtain rfl : R = R3 := eR3.symm
  replace hv := fnS hv hf3.symm
  rcases hp3 with ⟨rfl, hq3⟩ | ⟨rfl, hq3⟩
  rotate_left
  · replace hv := fnN hv (by decide)
    refine lv_if_eq (tgt := 29) hx hb dX11_turn_14 (by decide) (fun q35 => ?_) (fun q35 => ?_)
    · exact L_29 I1 J _ _ _ hH hv oI sm (lv_sub hl [] rfl)
    exact absurd rfl q35
  replace hv := fnP hv rfl
  have l4 : Int32.toInt 0 ≤ x1.toInt := in_cl hq3.1 (by decide)
  have r5 : Rg x1 (0) (2147483647) := Rg_lle (Rg_any x1) l4 (Rg_c (x := 0) (a := (0)) (b := (0)) (by decide)) (by decide)
  have l6 : x1.toInt ≤ Int32.toInt 6 := in_lc hq3.2 (by decide)
  have r7 : Rg x1 (0) (6) := Rg_ule r5 l6 (Rg_c (x := 6) (a := (6)) (b := (6)) (by decide)) (by decide)
  refine lv_if_eq (tgt := 29) hx hb dX11_turn_14 (by decide) (fun q8 => ?_) (fun q8 => ?_)
  · exact absurd q8 (by decide)
  refine lv_iload_n hx hb dX11_turn_17 rfl (lv_at hl 2 rfl) ?_
  refine lv_i2l (v := x2.toInt64) hx hb dX11_turn_18 rfl ?_
  refine lv_lconst (v := 0) hx hb dX11_turn_19 (by decide) ?_
  refine lv_ldc2 (v := 6) hx hb hown (hts _ kkl_X11_150) dX11_turn_20 ?_
  refine ca_X11_138 hx hb hml hown hts hH (c_X11_in ) hl.1 (by decide) (Nat.le_of_ble_eq_true rfl) ⟨Nat.zero_le _, Nat.zero_le _⟩ dX11_turn_23 (fun y9 I9 J9 R9 H locs hp hH => ?_)
  obtain ⟨eI9, eJ9, eR9, ry9, hp9, hf9⟩ := hp
  obtain rfl : I1 = I9 := eI9.symm
  obtain rfl : J = J9 := eJ9.symm
  obtain rfl : R = R9 := eR9.symm
  replace hv := fnS hv hf9.symm
  rcases hp9 with ⟨rfl, hq9⟩ | ⟨rfl, hq9⟩
  rotate_left
  · replace hv := fnN hv (by decide)
    refine lv_if_ne (tgt := 32) hx hb dX11_turn_26 (by decide) (fun q34 => ?_) (fun q34 => ?_)
    · exact absurd rfl q34
    exact L_29 I1 J _ _ _ hH hv oI sm (lv_sub hl [] rfl)
  replace hv := fnP hv rfl
  have l10 : Int32.toInt 0 ≤ x2.toInt := in_cl hq9.1 (by decide)
  have r11 : Rg x2 (0) (2147483647) := Rg_lle (Rg_any x2) l10 (Rg_c (x := 0) (a := (0)) (b := (0)) (by decide)) (by decide)
  have l12 : x2.toInt ≤ Int32.toInt 6 := in_lc hq9.2 (by decide)
  have r13 : Rg x2 (0) (6) := Rg_ule r11 l12 (Rg_c (x := 6) (a := (6)) (b := (6)) (by decide)) (by decide)
  refine lv_if_ne (tgt := 32) hx hb dX11_turn_26 (by decide) (fun q14 => ?_) (fun q14 => ?_)
  rotate_left
  · exact absurd q14 (by decide)
  refine lv_aload_n hx hb dX11_turn_32 rfl (lv_at hl 0 rfl) ?_
  refine ca_X11_189 hx hb hml hown hts hH (c_X11_measure oI oR m0 k0) hl.1 m0 k0 rfl (by decide) (Nat.le_of_ble_eq_true rfl) ⟨Nat.zero_le _, Nat.zero_le _⟩ dX11_turn_33 (fun I15 J15 R15 H locs hp hH => ?_)
  obtain ⟨⟨oI, -, sc15⟩, eJ15, eR15, hf15⟩ := hp
  obtain rfl : J = J15 := eJ15.symm
  obtain rfl : R = R15 := eR15.symm
  replace hv := fnW hv hf15
  have sm : Sm C ms_X11_turn (I, J, R) (I15, J, R) := sm.tr sc15 rfl
  refine lv_aload_n hx hb dX11_turn_36 rfl (lv_at hl 0 rfl) ?_
  obtain ⟨b16, mb16, vb16, kb16⟩ := rf_11_32 oR m0 k0
  replace hv := fnR hv vb16
  refine gf_11_32 vb16 hx hb hts hown hH m0 k0 rfl kf_X11_75 dX11_turn_37 ?_
  refine lv_bipush (v := 7) hx hb dX11_turn_40 (by decide) ?_
  refine lv_iload_n hx hb dX11_turn_42 rfl (lv_at hl 1 rfl) ?_
  refine lv_imul hx hb dX11_turn_43 ?_
  refine lv_topi (fun y17 ey17 => ?_)
  replace hv := fnS hv ey17
  obtain ⟨ty17, ry17⟩ := Rg_mulx (a' := (0)) (b' := (42)) (by decide : Int32.toInt 7 = 7) (rfl : x1.toInt = _) (Rg_c (x := 7) (a := (7)) (b := (7)) (by decide)) r7 (by decide)
  rw [← ey17] at ty17 ry17
  refine lv_iload_n hx hb dX11_turn_44 rfl (lv_at hl 2 rfl) ?_
  refine lv_iadd hx hb dX11_turn_45 ?_
  refine lv_topi (fun y18 ey18 => ?_)
  replace hv := fnS hv ey18
  obtain ⟨ty18, ry18⟩ := Rg_addx (a' := (0)) (b' := (48)) (rfl : y17.toInt = _) (rfl : x2.toInt = _) ry17 r13 (by decide)
  rw [← ey18] at ty18 ry18
  refine ld_85 hx hb hH mb16 kb16 (Rg_in ry18 (by decide)) dX11_turn_46 ?_
  refine lv_topi (fun y19 ey19 => ?_)
  replace hv := fnS hv ey19
  refine lv_ldc (v := 1000000) hx hb hown (hts _ kk_X11_180) dX11_turn_47 ?_
  refine lv_icmp_lt (tgt := 54) hx hb dX11_turn_49 (by decide) (fun q20 => ?_) (fun q20 => ?_)
  rotate_left
  · replace hv := fnN hv q20
    have r33 : Rg y19 (1000000) (2147483647) := Rg_lle (Rg_any y19) (Rg_nlt q20) (Rg_c (x := 1000000) (a := (1000000)) (b := (1000000)) (by decide)) (by decide)
    refine lv_iconst (v := (-1)) hx hb dX11_turn_52 (by decide) ?_
    exact ret ((-1)) _ _ _ _ _ _ _ dX11_turn_53 hH ⟨⟨oI, oR, sm⟩, rfl, (Rg_w (Rg_c (x := (-1)) (a := (-1)) (b := (-1)) (by decide)) (by decide)), (hT.symm.trans hv)⟩
  replace hv := fnP hv q20
  have r21 : Rg y19 (-2147483648) (999999) := Rg_ult (Rg_any y19) (Rg_lt q20) (Rg_c (x := 1000000) (a := (1000000)) (b := (1000000)) (by decide)) (by decide)
  refine lv_iload_n hx hb dX11_turn_54 rfl (lv_at hl 1 rfl) ?_
  refine lv_lload_n hx hb dX11_turn_55 rfl (lv_at hl 3 rfl) ?_
  refine ca_X11_176 hx hb hml hown hts hH (c_X11_isOf r7) hl.1 (by decide) (Nat.le_of_ble_eq_true rfl) ⟨Nat.zero_le _, Nat.zero_le _⟩ dX11_turn_56 (fun y22 I22 J22 R22 H locs hp hH => ?_)
  obtain ⟨eI22, eJ22, eR22, ry22, hp22, hf22⟩ := hp
  obtain rfl : I15 = I22 := eI22.symm
  obtain rfl : J = J22 := eJ22.symm
  obtain rfl : R = R22 := eR22.symm
  replace hv := fnS hv hf22.symm
  refine lv_if_ne (tgt := 71) hx hb dX11_turn_59 (by decide) (fun q23 => ?_) (fun q23 => ?_)
  rotate_left
  · replace hv := fnP hv q23
    have r31 : Rg y22 (0) (0) := Rg_both ry22 (Rg_eqv q23 (Rg_c (x := 0) (a := (0)) (b := (0)) (by decide))) (by decide)
    refine lv_aload_n hx hb dX11_turn_62 rfl (lv_at hl 0 rfl) ?_
    refine lv_iconst (v := 0) hx hb dX11_turn_63 (by decide) ?_
    refine lv_iconst (v := (-1)) hx hb dX11_turn_64 (by decide) ?_
    refine ca_X11_208 hx hb hml hown hts hH (c_X11_fail oI oR m0 k0) hl.1 m0 k0 rfl (by decide) (Nat.le_of_ble_eq_true rfl) ⟨Nat.zero_le _, Nat.zero_le _⟩ dX11_turn_65 (fun I32 J32 R32 H locs hp hH => ?_)
    obtain ⟨⟨oI, -, sc32⟩, eJ32, eR32, hf32⟩ := hp
    obtain rfl : J = J32 := eJ32.symm
    obtain rfl : R = R32 := eR32.symm
    replace hv := fnW hv hf32
    have sm : Sm C ms_X11_turn (I, J, R) (I32, J, R) := sm.tr sc32 rfl
    refine lv_bipush (v := (-7)) hx hb dX11_turn_68 (by decide) ?_
    exact ret ((-7)) _ _ _ _ _ _ _ dX11_turn_70 hH ⟨⟨oI, oR, sm⟩, rfl, (Rg_w (Rg_c (x := (-7)) (a := (-7)) (b := (-7)) (by decide)) (by decide)), (hT.symm.trans hv)⟩
  replace hv := fnN hv q23
  have r24 : Rg y22 (1) (1) := Rg_nelo ry22 (Rg_ne q23) (Rg_c (x := 0) (a := (0)) (b := (0)) (by decide)) (by decide)
  refine lv_aload_n hx hb dX11_turn_71 rfl (lv_at hl 0 rfl) ?_
  refine lv_iload_n hx hb dX11_turn_72 rfl (lv_at hl 1 rfl) ?_
  refine lv_iload_n hx hb dX11_turn_73 rfl (lv_at hl 2 rfl) ?_
  refine lv_lload_n hx hb dX11_turn_74 rfl (lv_at hl 3 rfl) ?_
  refine lv_iconst (v := 1) hx hb dX11_turn_75 (by decide) ?_
  refine ca_X11_212 hx hb hml hown hts hH (c_X11_turnIt oI oR m0 k0 r7 r13) hl.1 m0 k0 rfl (by decide) (Nat.le_of_ble_eq_true rfl) ⟨Nat.zero_le _, Nat.zero_le _⟩ dX11_turn_76 (fun y25 I25 J25 R25 H locs hp hH => ?_)
  obtain ⟨⟨oI, -, sc25⟩, eR25, ry25, hf25⟩ := hp
  obtain rfl : R = R25 := eR25.symm
  replace hv := fnC hv hf25
  have sm : Sm C ms_X11_turn (I, J, R) (I25, J25, R) := sm.tr sc25 rfl
  refine lv_if_ne (tgt := 85) hx hb dX11_turn_79 (by decide) (fun q26 => ?_) (fun q26 => ?_)
  rotate_left
  · replace hv := fnP hv q26
    have r30 : Rg y25 (0) (0) := Rg_both ry25 (Rg_eqv q26 (Rg_c (x := 0) (a := (0)) (b := (0)) (by decide))) (by decide)
    refine lv_bipush (v := (-7)) hx hb dX11_turn_82 (by decide) ?_
    exact ret ((-7)) _ _ _ _ _ _ _ dX11_turn_84 hH ⟨⟨oI, oR, sm⟩, rfl, (Rg_w (Rg_c (x := (-7)) (a := (-7)) (b := (-7)) (by decide)) (by decide)), (hT.symm.trans hv)⟩
  replace hv := fnN hv q26
  have r27 : Rg y25 (1) (1) := Rg_nelo ry25 (Rg_ne q26) (Rg_c (x := 0) (a := (0)) (b := (0)) (by decide)) (by decide)
  refine lv_aload_n hx hb dX11_turn_85 rfl (lv_at hl 0 rfl) ?_
  refine lv_aload_n hx hb dX11_turn_86 rfl (lv_at hl 0 rfl) ?_
  refine gf_11_37 hx hb hts hown hH m0 k0 rfl kf_X11_202 dX11_turn_87 ?_
  refine lv_topl (fun w28 ew28 => ?_)
  replace hv := fnS hv ew28
  refine pf_11_25 hx hb hts hown hH m0 k0 rfl kf_X11_216 dX11_turn_90 (fun J29 H locs eJ29 hH => ?_)
  replace hv := fnS hv eJ29
  have sm : Sm C ms_X11_turn (I, J, R) (I25, J29, R) := by rw [eJ29]; exact sm.stJ k0 (mC_obj (by decide) rfl)
  refine lv_iconst (v := 0) hx hb dX11_turn_93 (by decide) ?_
  exact ret (0) _ _ _ _ _ _ _ dX11_turn_94 hH ⟨⟨oI, oR, sm⟩, rfl, (Rg_w (Rg_c (x := 0) (a := (0)) (b := (0)) (by decide)) (by decide)), (hT.symm.trans hv)⟩
