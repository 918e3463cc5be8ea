set_option maxHeartbeats 4000000 in
set_option maxRecDepth 100000 in
theorem c_X11_in {l : Launch} {D : va_G} {cy : Nat → ClassId} {L : List Nat} {C : Nat → Nat} {b0 : Nat} {I : hI} {J : hJ} {R : hR} {x1 : Int64} {x2 : Int64} {x3 : Int64}  : CI l yX11_in cX11_in 6 .boolean 0 D cy L C b0 [.long x1, .long x2, .long x3] (I, J, R) (fun r v => v.1 = I ∧ v.2.1 = J ∧ v.2.2 = R ∧ Rg r (0) (1) ∧ ((r = 1 ∧ x2.toInt ≤ x1.toInt ∧ x1.toInt ≤ x3.toInt) ∨ (r = 0 ∧ ¬ (x2.toInt ≤ x1.toInt ∧ x1.toInt ≤ x3.toInt)))) := by
  refine CI.mkZ (by decide) (Nat.le_of_ble_eq_true rfl) ?_
  intro p e s m args below meth c ls Q hF ret hH hl
  obtain ⟨hx, hb, -, hml, hown, hts, -⟩ := hF
  have hl : lv_has ls 6 [(0, .long x1), (2, .long x2), (4, .long x3)] := hl
  have hH : Hp D cy L C b0 s s.heap I J R s.heap [] := hH
  refine lv_lload_n hx hb dX11_in_0 rfl (lv_at hl 0 rfl) ?_
  refine lv_lload_n hx hb dX11_in_1 rfl (lv_at hl 1 rfl) ?_
  refine W.lcmp hx hb dX11_in_2 ?_
  refine lv_topi (fun y1 ey1 => ?_)
  refine lv_if_lt (tgt := 17) hx hb dX11_in_3 (by decide) (fun q2 => ?_) (fun q2 => ?_)
  · have l3 := lc_lt ey1 q2
    have r4 : Rg y1 (-2147483648) (-1) := Rg_ult (Rg_any y1) (Rg_lt q2) (Rg_c (x := 0) (a := (0)) (b := (0)) (by decide)) (by decide)
    refine lv_iconst (v := 0) hx hb dX11_in_17 (by decide) ?_
    exact ret (0) _ _ _ _ _ _ _ dX11_in_18 hH (Rg_01 (Rg_w (Rg_c (x := 0) (a := (0)) (b := (0)) (by decide)) (by decide))) ⟨rfl, rfl, rfl, (Rg_w (Rg_c (x := 0) (a := (0)) (b := (0)) (by decide)) (by decide)), (by first | exact Or.inl ⟨rfl, by omega, by omega⟩ | exact Or.inr ⟨rfl, by omega⟩)⟩
  have l5 := lc_nlt ey1 q2
  have r6 : Rg y1 (0) (2147483647) := Rg_lle (Rg_any y1) (Rg_nlt q2) (Rg_c (x := 0) (a := (0)) (b := (0)) (by decide)) (by decide)
  refine lv_lload_n hx hb dX11_in_6 rfl (lv_at hl 0 rfl) ?_
  refine lv_lload hx hb dX11_in_7 (lv_at hl 2 rfl) ?_
  refine W.lcmp hx hb dX11_in_9 ?_
  refine lv_topi (fun y7 ey7 => ?_)
  refine lv_if_gt (tgt := 17) hx hb dX11_in_10 (by decide) (fun q8 => ?_) (fun q8 => ?_)
  · have l9 := lc_gt ey7 q8
    have r10 : Rg y7 (1) (2147483647) := Rg_llt (Rg_any y7) (Rg_lt q8) (Rg_c (x := 0) (a := (0)) (b := (0)) (by decide)) (by decide)
    refine lv_iconst (v := 0) hx hb dX11_in_17 (by decide) ?_
    exact ret (0) _ _ _ _ _ _ _ dX11_in_18 hH (Rg_01 (Rg_w (Rg_c (x := 0) (a := (0)) (b := (0)) (by decide)) (by decide))) ⟨rfl, rfl, rfl, (Rg_w (Rg_c (x := 0) (a := (0)) (b := (0)) (by decide)) (by decide)), (by first | exact Or.inl ⟨rfl, by omega, by omega⟩ | exact Or.inr ⟨rfl, by omega⟩)⟩
  have l11 := lc_ngt ey7 q8
  have r12 : Rg y7 (-2147483648) (0) := Rg_ule (Rg_any y7) (Rg_nlt q8) (Rg_c (x := 0) (a := (0)) (b := (0)) (by decide)) (by decide)
  refine lv_iconst (v := 1) hx hb dX11_in_13 (by decide) ?_
  refine lv_goto (tgt := 18) hx hb dX11_in_14 (by decide) ?_
  exact ret (1) _ _ _ _ _ _ _ dX11_in_18 hH (Rg_01 (Rg_w (Rg_c (x := 1) (a := (1)) (b := (1)) (by decide)) (by decide))) ⟨rfl, rfl, rfl, (Rg_w (Rg_c (x := 1) (a := (1)) (b := (1)) (by decide)) (by decide)), (by first | exact Or.inl ⟨rfl, by omega, by omega⟩ | exact Or.inr ⟨rfl, by omega⟩)⟩
set_option maxHeartbeats 4000000 in
set_option maxRecDepth 100000 in
theorem c_X10_isWithin {l : Launch} {D : va_G} {cy : Nat → ClassId} {L : List Nat} {C : Nat → Nat} {b0 : Nat} {I : hI} {J : hJ} {R : hR} {x1 : Int32} {x2 : Int32} {x3 : Int32}  : CI l yX10_isWithin cX10_isWithin 3 .boolean 0 D cy L C b0 [.int x1, .int x2, .int x3] (I, J, R) (fun r v => v.1 = I ∧ v.2.1 = J ∧ v.2.2 = R ∧ Rg r (0) (1) ∧ ((r = 1 ∧ x2.toInt ≤ x1.toInt ∧ x1.toInt ≤ x3.toInt) ∨ (r = 0 ∧ ¬ (x2.toInt ≤ x1.toInt ∧ x1.toInt ≤ x3.toInt)))) := by
  refine CI.mkZ (by decide) (Nat.le_of_ble_eq_true rfl) ?_
  intro p e s m args below meth c ls Q hF ret hH hl
  obtain ⟨hx, hb, -, hml, hown, hts, -⟩ := hF
  have hl : lv_has ls 3 [(0, .int x1), (1, .int x2), (2, .int x3)] := hl
  have hH : Hp D cy L C b0 s s.heap I J R s.heap [] := hH
  refine lv_iload_n hx hb dX10_isWithin_0 rfl (lv_at hl 0 rfl) ?_
  refine lv_iload_n hx hb dX10_isWithin_1 rfl (lv_at hl 1 rfl) ?_
  refine lv_icmp_lt (tgt := 14) hx hb dX10_isWithin_2 (by decide) (fun q1 => ?_) (fun q1 => ?_)
  · have l2 := Rg_lt q1
    have r3 : Rg x1 (-2147483648) (2147483646) := Rg_ult (Rg_any x1) (Rg_lt q1) (Rg_any x2) (by decide)
    have r4 : Rg x2 (-2147483647) (2147483647) := Rg_llt (Rg_any x2) (Rg_lt q1) (Rg_any x1) (by decide)
    refine lv_iconst (v := 0) hx hb dX10_isWithin_14 (by decide) ?_
    exact ret (0) _ _ _ _ _ _ _ dX10_isWithin_15 hH (Rg_01 (Rg_w (Rg_c (x := 0) (a := (0)) (b := (0)) (by decide)) (by decide))) ⟨rfl, rfl, rfl, (Rg_w (Rg_c (x := 0) (a := (0)) (b := (0)) (by decide)) (by decide)), (by first | exact Or.inl ⟨rfl, by omega, by omega⟩ | exact Or.inr ⟨rfl, by omega⟩)⟩
  have l5 := Rg_nlt q1
  refine lv_iload_n hx hb dX10_isWithin_5 rfl (lv_at hl 0 rfl) ?_
  refine lv_iload_n hx hb dX10_isWithin_6 rfl (lv_at hl 2 rfl) ?_
  refine lv_icmp_gt (tgt := 14) hx hb dX10_isWithin_7 (by decide) (fun q6 => ?_) (fun q6 => ?_)
  rotate_left
  · have l10 := Rg_nlt q6
    refine lv_iconst (v := 1) hx hb dX10_isWithin_10 (by decide) ?_
    refine lv_goto (tgt := 15) hx hb dX10_isWithin_11 (by decide) ?_
    exact ret (1) _ _ _ _ _ _ _ dX10_isWithin_15 hH (Rg_01 (Rg_w (Rg_c (x := 1) (a := (1)) (b := (1)) (by decide)) (by decide))) ⟨rfl, rfl, rfl, (Rg_w (Rg_c (x := 1) (a := (1)) (b := (1)) (by decide)) (by decide)), (by first | exact Or.inl ⟨rfl, by omega, by omega⟩ | exact Or.inr ⟨rfl, by omega⟩)⟩
  have l7 := Rg_lt q6
  have r8 : Rg x3 (-2147483648) (2147483646) := Rg_ult (Rg_any x3) (Rg_lt q6) (Rg_any x1) (by decide)
  have r9 : Rg x1 (-2147483647) (2147483647) := Rg_llt (Rg_any x1) (Rg_lt q6) (Rg_any x3) (by decide)
  refine lv_iconst (v := 0) hx hb dX10_isWithin_14 (by decide) ?_
  exact ret (0) _ _ _ _ _ _ _ dX10_isWithin_15 hH (Rg_01 (Rg_w (Rg_c (x := 0) (a := (0)) (b := (0)) (by decide)) (by decide))) ⟨rfl, rfl, rfl, (Rg_w (Rg_c (x := 0) (a := (0)) (b := (0)) (by decide)) (by decide)), (by first | exact Or.inl ⟨rfl, by omega, by omega⟩ | exact Or.inr ⟨rfl, by omega⟩)⟩
set_option maxHeartbeats 4000000 in
set_option maxRecDepth 100000 in
theorem c_X11_isOf {l : Launch} {D : va_G} {cy : Nat → ClassId} {L : List Nat} {C : Nat → Nat} {b0 : Nat} {I : hI} {J : hJ} {R : hR} {x1 : Int32} {x2 : Int64} (h1 : Rg x1 (0) (6)) : CI l yX11_isOf cX11_isOf 3 .boolean 1 D cy L C b0 [.int x1, .long x2] (I, J, R) (fun r v => v.1 = I ∧ v.2.1 = J ∧ v.2.2 = R ∧ Rg r (0) (1)) := by
  refine CI.mkZ (by decide) (Nat.le_of_ble_eq_true rfl) ?_
  intro p e s m args below meth c ls Q hF ret hH hl
  obtain ⟨hx, hb, -, hml, hown, hts, -⟩ := hF
  have hl : lv_has ls 3 [(0, .int x1), (1, .long x2)] := hl
  have hH : Hp D cy L C b0 s s.heap I J R s.heap [] := hH
  refine lv_iload_n hx hb dX11_isOf_0 rfl (lv_at hl 0 rfl) ?_
  rcases (show x1.toInt = 0 ∨ x1.toInt = 1 ∨ x1.toInt = 2 ∨ x1.toInt = 3 ∨ x1.toInt = 4 ∨ x1.toInt = 5 ∨ x1.toInt = 6 by have z11 := h1.1; have z12 := h1.2; omega) with z1 | z1 | z1 | z1 | z1 | z1 | z1
  · have r2 : Rg x1 (0) (0) := ⟨by rw [z1]; decide, by rw [z1]; decide⟩
    refine lv_tableIn (tgt := 44) hx hb dX11_isOf_1 (by rw [z1]; decide) (by rw [z1]; decide) (by rw [z1]; rfl) (by decide) ?_
    refine lv_lload_n hx hb dX11_isOf_44 rfl (lv_at hl 1 rfl) ?_
    refine lv_ldc2 (v := (-128)) hx hb hown (hts _ kkl_X11_134) dX11_isOf_45 ?_
    refine lv_ldc2 (v := 127) hx hb hown (hts _ kkl_X11_136) dX11_isOf_48 ?_
    refine ca_X11_138 hx hb hml hown hts hH (c_X11_in ) hl.1 (by decide) (Nat.le_of_ble_eq_true rfl) ⟨Nat.zero_le _, Nat.zero_le _⟩ dX11_isOf_51 (fun y3 I3 J3 R3 H locs hp hH => ?_)
    obtain ⟨eI3, eJ3, eR3, ry3, hp3⟩ := hp
    obtain rfl : I = I3 := eI3.symm
    obtain rfl : J = J3 := eJ3.symm
    obtain rfl : R = R3 := eR3.symm
    rcases hp3 with ⟨rfl, hq3⟩ | ⟨rfl, hq3⟩
    · exact ret (1) _ _ _ _ _ _ _ dX11_isOf_54 hH (Rg_01 (Rg_w (Rg_c (x := 1) (a := (1)) (b := (1)) (by decide)) (by decide))) ⟨rfl, rfl, rfl, (Rg_w (Rg_c (x := 1) (a := (1)) (b := (1)) (by decide)) (by decide))⟩
    exact ret (0) _ _ _ _ _ _ _ dX11_isOf_54 hH (Rg_01 (Rg_w (Rg_c (x := 0) (a := (0)) (b := (0)) (by decide)) (by decide))) ⟨rfl, rfl, rfl, (Rg_w (Rg_c (x := 0) (a := (0)) (b := (0)) (by decide)) (by decide))⟩
  · have r4 : Rg x1 (1) (1) := ⟨by rw [z1]; decide, by rw [z1]; decide⟩
    refine lv_tableIn (tgt := 55) hx hb dX11_isOf_1 (by rw [z1]; decide) (by rw [z1]; decide) (by rw [z1]; rfl) (by decide) ?_
    refine lv_lload_n hx hb dX11_isOf_55 rfl (lv_at hl 1 rfl) ?_
    refine lv_ldc2 (v := (-32768)) hx hb hown (hts _ kkl_X11_142) dX11_isOf_56 ?_
    refine lv_ldc2 (v := 32767) hx hb hown (hts _ kkl_X11_144) dX11_isOf_59 ?_
    refine ca_X11_138 hx hb hml hown hts hH (c_X11_in ) hl.1 (by decide) (Nat.le_of_ble_eq_true rfl) ⟨Nat.zero_le _, Nat.zero_le _⟩ dX11_isOf_62 (fun y5 I5 J5 R5 H locs hp hH => ?_)
    obtain ⟨eI5, eJ5, eR5, ry5, hp5⟩ := hp
    obtain rfl : I = I5 := eI5.symm
    obtain rfl : J = J5 := eJ5.symm
    obtain rfl : R = R5 := eR5.symm
    rcases hp5 with ⟨rfl, hq5⟩ | ⟨rfl, hq5⟩
    · exact ret (1) _ _ _ _ _ _ _ dX11_isOf_65 hH (Rg_01 (Rg_w (Rg_c (x := 1) (a := (1)) (b := (1)) (by decide)) (by decide))) ⟨rfl, rfl, rfl, (Rg_w (Rg_c (x := 1) (a := (1)) (b := (1)) (by decide)) (by decide))⟩
    exact ret (0) _ _ _ _ _ _ _ dX11_isOf_65 hH (Rg_01 (Rg_w (Rg_c (x := 0) (a := (0)) (b := (0)) (by decide)) (by decide))) ⟨rfl, rfl, rfl, (Rg_w (Rg_c (x := 0) (a := (0)) (b := (0)) (by decide)) (by decide))⟩
  · have r6 : Rg x1 (2) (2) := ⟨by rw [z1]; decide, by rw [z1]; decide⟩
    refine lv_tableIn (tgt := 66) hx hb dX11_isOf_1 (by rw [z1]; decide) (by rw [z1]; decide) (by rw [z1]; rfl) (by decide) ?_
    refine lv_lload_n hx hb dX11_isOf_66 rfl (lv_at hl 1 rfl) ?_
    refine lv_ldc2 (v := (-2147483648)) hx hb hown (hts _ kkl_X11_146) dX11_isOf_67 ?_
    refine lv_ldc2 (v := 2147483647) hx hb hown (hts _ kkl_X11_148) dX11_isOf_70 ?_
    refine ca_X11_138 hx hb hml hown hts hH (c_X11_in ) hl.1 (by decide) (Nat.le_of_ble_eq_true rfl) ⟨Nat.zero_le _, Nat.zero_le _⟩ dX11_isOf_73 (fun y7 I7 J7 R7 H locs hp hH => ?_)
    obtain ⟨eI7, eJ7, eR7, ry7, hp7⟩ := hp
    obtain rfl : I = I7 := eI7.symm
    obtain rfl : J = J7 := eJ7.symm
    obtain rfl : R = R7 := eR7.symm
    rcases hp7 with ⟨rfl, hq7⟩ | ⟨rfl, hq7⟩
    · exact ret (1) _ _ _ _ _ _ _ dX11_isOf_76 hH (Rg_01 (Rg_w (Rg_c (x := 1) (a := (1)) (b := (1)) (by decide)) (by decide))) ⟨rfl, rfl, rfl, (Rg_w (Rg_c (x := 1) (a := (1)) (b := (1)) (by decide)) (by decide))⟩
    exact ret (0) _ _ _ _ _ _ _ dX11_isOf_76 hH (Rg_01 (Rg_w (Rg_c (x := 0) (a := (0)) (b := (0)) (by decide)) (by decide))) ⟨rfl, rfl, rfl, (Rg_w (Rg_c (x := 0) (a := (0)) (b := (0)) (by decide)) (by decide))⟩
  · have r8 : Rg x1 (3) (3) := ⟨by rw [z1]; decide, by rw [z1]; decide⟩
    refine lv_tableIn (tgt := 93) hx hb dX11_isOf_1 (by rw [z1]; decide) (by rw [z1]; decide) (by rw [z1]; rfl) (by decide) ?_
    refine lv_iconst (v := 1) hx hb dX11_isOf_93 (by decide) ?_
    exact ret (1) _ _ _ _ _ _ _ dX11_isOf_94 hH (Rg_01 (Rg_w (Rg_c (x := 1) (a := (1)) (b := (1)) (by decide)) (by decide))) ⟨rfl, rfl, rfl, (Rg_w (Rg_c (x := 1) (a := (1)) (b := (1)) (by decide)) (by decide))⟩
  · have r9 : Rg x1 (4) (4) := ⟨by rw [z1]; decide, by rw [z1]; decide⟩
    refine lv_tableIn (tgt := 77) hx hb dX11_isOf_1 (by rw [z1]; decide) (by rw [z1]; decide) (by rw [z1]; rfl) (by decide) ?_
    refine lv_lload_n hx hb dX11_isOf_77 rfl (lv_at hl 1 rfl) ?_
    refine lv_lconst (v := 0) hx hb dX11_isOf_78 (by decide) ?_
    refine lv_lconst (v := 1) hx hb dX11_isOf_79 (by decide) ?_
    refine ca_X11_138 hx hb hml hown hts hH (c_X11_in ) hl.1 (by decide) (Nat.le_of_ble_eq_true rfl) ⟨Nat.zero_le _, Nat.zero_le _⟩ dX11_isOf_80 (fun y10 I10 J10 R10 H locs hp hH => ?_)
    obtain ⟨eI10, eJ10, eR10, ry10, hp10⟩ := hp
    obtain rfl : I = I10 := eI10.symm
    obtain rfl : J = J10 := eJ10.symm
    obtain rfl : R = R10 := eR10.symm
    rcases hp10 with ⟨rfl, hq10⟩ | ⟨rfl, hq10⟩
    · exact ret (1) _ _ _ _ _ _ _ dX11_isOf_83 hH (Rg_01 (Rg_w (Rg_c (x := 1) (a := (1)) (b := (1)) (by decide)) (by decide))) ⟨rfl, rfl, rfl, (Rg_w (Rg_c (x := 1) (a := (1)) (b := (1)) (by decide)) (by decide))⟩
    exact ret (0) _ _ _ _ _ _ _ dX11_isOf_83 hH (Rg_01 (Rg_w (Rg_c (x := 0) (a := (0)) (b := (0)) (by decide)) (by decide))) ⟨rfl, rfl, rfl, (Rg_w (Rg_c (x := 0) (a := (0)) (b := (0)) (by decide)) (by decide))⟩
  · have r11 : Rg x1 (5) (5) := ⟨by rw [z1]; decide, by rw [z1]; decide⟩
    refine lv_tableIn (tgt := 93) hx hb dX11_isOf_1 (by rw [z1]; decide) (by rw [z1]; decide) (by rw [z1]; rfl) (by decide) ?_
    refine lv_iconst (v := 1) hx hb dX11_isOf_93 (by decide) ?_
    exact ret (1) _ _ _ _ _ _ _ dX11_isOf_94 hH (Rg_01 (Rg_w (Rg_c (x := 1) (a := (1)) (b := (1)) (by decide)) (by decide))) ⟨rfl, rfl, rfl, (Rg_w (Rg_c (x := 1) (a := (1)) (b := (1)) (by decide)) (by decide))⟩
  · have r12 : Rg x1 (6) (6) := ⟨by rw [z1]; decide, by rw [z1]; decide⟩
    refine lv_tableIn (tgt := 84) hx hb dX11_isOf_1 (by rw [z1]; decide) (by rw [z1]; decide) (by rw [z1]; rfl) (by decide) ?_
    refine lv_lload_n hx hb dX11_isOf_84 rfl (lv_at hl 1 rfl) ?_
    refine lv_lconst (v := 0) hx hb dX11_isOf_85 (by decide) ?_
    refine lv_ldc2 (v := 127) hx hb hown (hts _ kkl_X11_136) dX11_isOf_86 ?_
    refine ca_X11_138 hx hb hml hown hts hH (c_X11_in ) hl.1 (by decide) (Nat.le_of_ble_eq_true rfl) ⟨Nat.zero_le _, Nat.zero_le _⟩ dX11_isOf_89 (fun y13 I13 J13 R13 H locs hp hH => ?_)
    obtain ⟨eI13, eJ13, eR13, ry13, hp13⟩ := hp
    obtain rfl : I = I13 := eI13.symm
    obtain rfl : J = J13 := eJ13.symm
    obtain rfl : R = R13 := eR13.symm
    rcases hp13 with ⟨rfl, hq13⟩ | ⟨rfl, hq13⟩
    · exact ret (1) _ _ _ _ _ _ _ dX11_isOf_92 hH (Rg_01 (Rg_w (Rg_c (x := 1) (a := (1)) (b := (1)) (by decide)) (by decide))) ⟨rfl, rfl, rfl, (Rg_w (Rg_c (x := 1) (a := (1)) (b := (1)) (by decide)) (by decide))⟩
    exact ret (0) _ _ _ _ _ _ _ dX11_isOf_92 hH (Rg_01 (Rg_w (Rg_c (x := 0) (a := (0)) (b := (0)) (by decide)) (by decide))) ⟨rfl, rfl, rfl, (Rg_w (Rg_c (x := 0) (a := (0)) (b := (0)) (by decide)) (by decide))⟩
def ms_X11_base : List Nat := [705, 4096, 4160, 4224, 4288, 4352, 4416]
set_option maxHeartbeats 4000000 in
set_option maxRecDepth 100000 in
theorem c_X11_base {l : Launch} {D : va_G} {cy : Nat → ClassId} {L : List Nat} {C : Nat → Nat} {b0 : Nat} {I : hI} {J : hJ} {R : hR} {a0 : Nat} {x1 : Int32} {x2 : Int32} {x3 : Int32} (oI : OkI L C I) (oR : OkR L C R) (m0 : a0 ∈ L) (k0 : C a0 = 11) (h1 : Rg x1 (0) (6)) (h2 : Rg x2 (0) (6)) (h3 : Rg x3 (0) (50)) (hm1 : Rg (I a0 1) (0) (31)) : CV l yX11_base cX11_base 4 0 D cy L C b0 [.ref a0, .int x1, .int x2, .int x3] (I, J, R) (fun v => Ps L C ms_X11_base (I, J, R) v ∧ v.2.1 = J ∧ v.2.2 = R ∧ Rg (v.1 a0 1) (1) (32)) := by
  refine CV.mk (by decide) (Nat.le_of_ble_eq_true rfl) ?_
  intro p e s m args below meth c ls Q hF ret hH hl
  obtain ⟨hx, hb, -, hml, hown, hts, -⟩ := hF
  have hl : lv_has ls 4 [(0, .ref a0), (1, .int x1), (2, .int x2), (3, .int x3)] := hl
  have hH : Hp D cy L C b0 s s.heap I J R s.heap [] := hH
  have sm : Sm C ms_X11_base (I, J, R) (I, J, R) := Sm.rf
  obtain ⟨z1, ez1⟩ : ∃ y : Int32, y = I a0 1 := ⟨_, rfl⟩
  have rz1 : Rg z1 (0) (31) := by rw [ez1]; exact hm1
  refine lv_aload_n hx hb dX11_base_0 rfl (lv_at hl 0 rfl) ?_
  obtain ⟨b2, mb2, vb2, kb2⟩ := rf_11_2 oR m0 k0
  refine gf_11_2 vb2 hx hb hts hown hH m0 k0 rfl kf_X11_7 dX11_base_1 ?_
  refine lv_aload_n hx hb dX11_base_4 rfl (lv_at hl 0 rfl) ?_
  refine gf_11_1 hx hb hts hown hH m0 k0 rfl kf_X11_127 dX11_base_5 ?_
  refine lv_topi (fun y3 ey3 => ?_)
  obtain rfl : z1 = y3 := ez1.trans ey3.symm
  refine lv_iload_n hx hb dX11_base_8 rfl (lv_at hl 1 rfl) ?_
  refine st_64 hx hb hH mb2 kb2 (Rg_in rz1 (by decide)) dX11_base_9 (fun I4 H locs eI4 hH => ?_)
  have oI : OkI L C I4 := by rw [eI4]; exact wr_64 oI kb2 h1
  have sm : Sm C ms_X11_base (I, J, R) (I4, J, R) := by rw [eI4]; exact sm.stI kb2 (mC_arr (by decide) rfl)
  refine lv_aload_n hx hb dX11_base_10 rfl (lv_at hl 0 rfl) ?_
  obtain ⟨b5, mb5, vb5, kb5⟩ := rf_11_3 oR m0 k0
  refine gf_11_3 vb5 hx hb hts hown hH m0 k0 rfl kf_X11_13 dX11_base_11 ?_
  refine lv_aload_n hx hb dX11_base_14 rfl (lv_at hl 0 rfl) ?_
  have f7 : I4 a0 (1) = I a0 (1) := (by rw [eI4, u2_ne (ne_role k0 kb2 (by decide))])
  have f6 : z1 = I4 a0 (1) := ez1.trans f7.symm
  refine gf_11_1 hx hb hts hown hH m0 k0 rfl kf_X11_127 dX11_base_15 ?_
  refine lv_topi (fun y8 ey8 => ?_)
  obtain rfl : z1 = y8 := f6.trans ey8.symm
  refine lv_iload_n hx hb dX11_base_18 rfl (lv_at hl 2 rfl) ?_
  refine st_65 hx hb hH mb5 kb5 (Rg_in rz1 (by decide)) dX11_base_19 (fun I9 H locs eI9 hH => ?_)
  have oI : OkI L C I9 := by rw [eI9]; exact wr_65 oI kb5 h2
  have sm : Sm C ms_X11_base (I, J, R) (I9, J, R) := by rw [eI9]; exact sm.stI kb5 (mC_arr (by decide) rfl)
  refine lv_aload_n hx hb dX11_base_20 rfl (lv_at hl 0 rfl) ?_
  obtain ⟨b10, mb10, vb10, kb10⟩ := rf_11_4 oR m0 k0
  refine gf_11_4 vb10 hx hb hts hown hH m0 k0 rfl kf_X11_16 dX11_base_21 ?_
  refine lv_aload_n hx hb dX11_base_24 rfl (lv_at hl 0 rfl) ?_
  have f12 : I9 a0 (1) = I4 a0 (1) := (by rw [eI9, u2_ne (ne_role k0 kb5 (by decide))])
  have f11 : z1 = I9 a0 (1) := f6.trans f12.symm
  refine gf_11_1 hx hb hts hown hH m0 k0 rfl kf_X11_127 dX11_base_25 ?_
  refine lv_topi (fun y13 ey13 => ?_)
  obtain rfl : z1 = y13 := f11.trans ey13.symm
  refine lv_iload_n hx hb dX11_base_28 rfl (lv_at hl 3 rfl) ?_
  refine st_66 hx hb hH mb10 kb10 (Rg_in rz1 (by decide)) dX11_base_29 (fun I14 H locs eI14 hH => ?_)
  have oI : OkI L C I14 := by rw [eI14]; exact wr_66 oI kb10 h3
  have sm : Sm C ms_X11_base (I, J, R) (I14, J, R) := by rw [eI14]; exact sm.stI kb10 (mC_arr (by decide) rfl)
  refine lv_aload_n hx hb dX11_base_30 rfl (lv_at hl 0 rfl) ?_
  obtain ⟨b15, mb15, vb15, kb15⟩ := rf_11_5 oR m0 k0
  refine gf_11_5 vb15 hx hb hts hown hH m0 k0 rfl kf_X11_19 dX11_base_31 ?_
  refine lv_aload_n hx hb dX11_base_34 rfl (lv_at hl 0 rfl) ?_
  have f17 : I14 a0 (1) = I9 a0 (1) := (by rw [eI14, u2_ne (ne_role k0 kb10 (by decide))])
  have f16 : z1 = I14 a0 (1) := f11.trans f17.symm
  refine gf_11_1 hx hb hts hown hH m0 k0 rfl kf_X11_127 dX11_base_35 ?_
  refine lv_topi (fun y18 ey18 => ?_)
  obtain rfl : z1 = y18 := f16.trans ey18.symm
  refine lv_iconst (v := 1) hx hb dX11_base_38 (by decide) ?_
  refine st_67 hx hb hH mb15 kb15 (Rg_in rz1 (by decide)) dX11_base_39 (fun I19 H locs eI19 hH => ?_)
  have oI : OkI L C I19 := by rw [eI19]; exact wr_67 oI kb15 (Rg_w (Rg_c (x := 1) (a := (1)) (b := (1)) (by decide)) (by decide))
  have sm : Sm C ms_X11_base (I, J, R) (I19, J, R) := by rw [eI19]; exact sm.stI kb15 (mC_arr (by decide) rfl)
  refine lv_aload_n hx hb dX11_base_40 rfl (lv_at hl 0 rfl) ?_
  obtain ⟨b20, mb20, vb20, kb20⟩ := rf_11_6 oR m0 k0
  refine gf_11_6 vb20 hx hb hts hown hH m0 k0 rfl kf_X11_22 dX11_base_41 ?_
  refine lv_aload_n hx hb dX11_base_44 rfl (lv_at hl 0 rfl) ?_
  have f22 : I19 a0 (1) = I14 a0 (1) := (by rw [eI19, u2_ne (ne_role k0 kb15 (by decide))])
  have f21 : z1 = I19 a0 (1) := f16.trans f22.symm
  refine gf_11_1 hx hb hts hown hH m0 k0 rfl kf_X11_127 dX11_base_45 ?_
  refine lv_topi (fun y23 ey23 => ?_)
  obtain rfl : z1 = y23 := f21.trans ey23.symm
  refine lv_iconst (v := 0) hx hb dX11_base_48 (by decide) ?_
  refine st_68 hx hb hH mb20 kb20 (Rg_in rz1 (by decide)) dX11_base_49 (fun I24 H locs eI24 hH => ?_)
  have oI : OkI L C I24 := by rw [eI24]; exact wr_68 oI kb20 (Rg_w (Rg_c (x := 0) (a := (0)) (b := (0)) (by decide)) (by decide))
  have sm : Sm C ms_X11_base (I, J, R) (I24, J, R) := by rw [eI24]; exact sm.stI kb20 (mC_arr (by decide) rfl)
  refine lv_aload_n hx hb dX11_base_50 rfl (lv_at hl 0 rfl) ?_
  obtain ⟨b25, mb25, vb25, kb25⟩ := rf_11_7 oR m0 k0
  refine gf_11_7 vb25 hx hb hts hown hH m0 k0 rfl kf_X11_25 dX11_base_51 ?_
  refine lv_aload_n hx hb dX11_base_54 rfl (lv_at hl 0 rfl) ?_
  have f27 : I24 a0 (1) = I19 a0 (1) := (by rw [eI24, u2_ne (ne_role k0 kb20 (by decide))])
  have f26 : z1 = I24 a0 (1) := f21.trans f27.symm
  refine gf_11_1 hx hb hts hown hH m0 k0 rfl kf_X11_127 dX11_base_55 ?_
  refine lv_topi (fun y28 ey28 => ?_)
  obtain rfl : z1 = y28 := f26.trans ey28.symm
  refine lv_iconst (v := 1) hx hb dX11_base_58 (by decide) ?_
  refine st_69 hx hb hH mb25 kb25 (Rg_in rz1 (by decide)) (Rg_01 (Rg_w (Rg_c (x := 1) (a := (1)) (b := (1)) (by decide)) (by decide))) dX11_base_59 (fun I29 H locs eI29 hH => ?_)
  have oI : OkI L C I29 := by rw [eI29]; exact wr_69 oI kb25 (Rg_w (Rg_c (x := 1) (a := (1)) (b := (1)) (by decide)) (by decide))
  have sm : Sm C ms_X11_base (I, J, R) (I29, J, R) := by rw [eI29]; exact sm.stI kb25 (mC_arr (by decide) rfl)
  refine lv_aload_n hx hb dX11_base_60 rfl (lv_at hl 0 rfl) ?_
  refine lv_dup hx hb dX11_base_61 rfl ?_
  have f31 : I29 a0 (1) = I24 a0 (1) := (by rw [eI29, u2_ne (ne_role k0 kb25 (by decide))])
  have f30 : z1 = I29 a0 (1) := f26.trans f31.symm
  refine gf_11_1 hx hb hts hown hH m0 k0 rfl kf_X11_127 dX11_base_62 ?_
  refine lv_topi (fun y32 ey32 => ?_)
  obtain rfl : z1 = y32 := f30.trans ey32.symm
  refine lv_iconst (v := 1) hx hb dX11_base_65 (by decide) ?_
  refine lv_iadd hx hb dX11_base_66 ?_
  refine lv_topi (fun y33 ey33 => ?_)
  obtain ⟨ty33, ry33⟩ := Rg_addx (a' := (1)) (b' := (32)) (rfl : z1.toInt = _) (by decide : Int32.toInt 1 = 1) rz1 (Rg_c (x := 1) (a := (1)) (b := (1)) (by decide)) (by decide)
  rw [← ey33] at ty33 ry33
  refine pf_11_1 hx hb hts hown hH m0 k0 rfl kf_X11_127 dX11_base_67 (fun I34 H locs eI34 hH => ?_)
  have oI : OkI L C I34 := by rw [eI34]; exact wf_11_1 oI k0 (Rg_w ry33 (by decide))
  have sm : Sm C ms_X11_base (I, J, R) (I34, J, R) := by rw [eI34]; exact sm.stI k0 (mC_obj (by decide) rfl)
  have f35 : y33 = I34 a0 1 := by rw [eI34, u2_at]
  exact ret _ _ _ _ _ _ _ dX11_base_70 hH ⟨⟨oI, oR, sm⟩, rfl, rfl, (by show Rg (I34 a0 1) _ _; rw [← f35]; exact Rg_w ry33 (by decide))⟩
def ms_X11_fail : List Nat := [730, 731, 732]
set_option maxHeartbeats 4000000 in
set_option maxRecDepth 100000 in
theorem c_X11_fail {l : Launch} {D : va_G} {cy : Nat → ClassId} {L : List Nat} {C : Nat → Nat} {b0 : Nat} {I : hI} {J : hJ} {R : hR} {a0 : Nat} {x1 : Int32} {x2 : Int32} (oI : OkI L C I) (oR : OkR L C R) (m0 : a0 ∈ L) (k0 : C a0 = 11) : CV l yX11_fail cX11_fail 3 0 D cy L C b0 [.ref a0, .int x1, .int x2] (I, J, R) (fun v => Ps L C ms_X11_fail (I, J, R) v ∧ v.2.1 = J ∧ v.2.2 = R) := by
  refine CV.mk (by decide) (Nat.le_of_ble_eq_true rfl) ?_
  intro p e s m args below meth c ls Q hF ret hH hl
  obtain ⟨hx, hb, -, hml, hown, hts, -⟩ := hF
  have hl : lv_has ls 3 [(0, .ref a0), (1, .int x1), (2, .int x2)] := hl
  have hH : Hp D cy L C b0 s s.heap I J R s.heap [] := hH
  have sm : Sm C ms_X11_fail (I, J, R) (I, J, R) := Sm.rf
  refine lv_aload_n hx hb dX11_fail_0 rfl (lv_at hl 0 rfl) ?_
  refine lv_iconst (v := 1) hx hb dX11_fail_1 (by decide) ?_
  refine pf_11_26 hx hb hts hown hH (Rg_01 (Rg_w (Rg_c (x := 1) (a := (1)) (b := (1)) (by decide)) (by decide))) m0 k0 rfl kf_X11_192 dX11_fail_2 (fun I1 H locs eI1 hH => ?_)
  have oI : OkI L C I1 := by rw [eI1]; exact wf_11_26 oI k0 (Rg_w (Rg_c (x := 1) (a := (1)) (b := (1)) (by decide)) (by decide))
  have sm : Sm C ms_X11_fail (I, J, R) (I1, J, R) := by rw [eI1]; exact sm.stI k0 (mC_obj (by decide) rfl)
  have f2 : 1 = I1 a0 26 := by rw [eI1, u2_at]
  refine lv_aload_n hx hb dX11_fail_5 rfl (lv_at hl 0 rfl) ?_
  refine lv_iload_n hx hb dX11_fail_6 rfl (lv_at hl 1 rfl) ?_
  refine pf_11_27 hx hb hts hown hH m0 k0 rfl kf_X11_196 dX11_fail_7 (fun I3 H locs eI3 hH => ?_)
  have oI : OkI L C I3 := by rw [eI3]; exact wf_11_27 oI k0 (Rg_any x1)
  have sm : Sm C ms_X11_fail (I, J, R) (I3, J, R) := by rw [eI3]; exact sm.stI k0 (mC_obj (by decide) rfl)
  have f4 : x1 = I3 a0 27 := by rw [eI3, u2_at]
  refine lv_aload_n hx hb dX11_fail_10 rfl (lv_at hl 0 rfl) ?_
  refine lv_iload_n hx hb dX11_fail_11 rfl (lv_at hl 2 rfl) ?_
  refine pf_11_28 hx hb hts hown hH m0 k0 rfl kf_X11_199 dX11_fail_12 (fun I5 H locs eI5 hH => ?_)
  have oI : OkI L C I5 := by rw [eI5]; exact wf_11_28 oI k0 (Rg_any x2)
  have sm : Sm C ms_X11_fail (I, J, R) (I5, J, R) := by rw [eI5]; exact sm.stI k0 (mC_obj (by decide) rfl)
  have f6 : x2 = I5 a0 28 := by rw [eI5, u2_at]
  exact ret _ _ _ _ _ _ _ dX11_fail_15 hH ⟨⟨oI, oR, sm⟩, rfl, rfl⟩
def ms_X11_plus : List Nat := [759]
set_option maxHeartbeats 4000000 in
set_option maxRecDepth 100000 in
theorem c_X11_plus {l : Launch} {D : va_G} {cy : Nat → ClassId} {L : List Nat} {C : Nat → Nat} {b0 : Nat} {I : hI} {J : hJ} {R : hR} {a0 : Nat} {x1 : Int64} (oI : OkI L C I) (oR : OkR L C R) (m0 : a0 ∈ L) (k0 : C a0 = 11) : CI l yX11_plus cX11_plus 6 .boolean 0 D cy L C b0 [.ref a0, .long x1] (I, J, R) (fun r v => Ps L C ms_X11_plus (I, J, R) v ∧ v.1 = I ∧ v.2.2 = R ∧ Rg r (0) (1)) := by
  refine CI.mkZ (by decide) (Nat.le_of_ble_eq_true rfl) ?_
  intro p e s m args below meth c ls Q hF ret hH hl
  obtain ⟨hx, hb, -, hml, hown, hts, -⟩ := hF
  have hl : lv_has ls 6 [(0, .ref a0), (1, .long x1)] := hl
  have hH : Hp D cy L C b0 s s.heap I J R s.heap [] := hH
  have sm : Sm C ms_X11_plus (I, J, R) (I, J, R) := Sm.rf
  have L_27 : ∀ (J_27 : hJ) (H : Heap) (locs : List Loc) (ls : Array Slot) (xs0_27 : Int32) (x3_27 : Int64), Hp D cy L C b0 s s.heap I J_27 R H locs → Sm C ms_X11_plus (I, J, R) (I, J_27, R) → Rg xs0_27 (0) (1) → lv_has ls 6 [(0, .ref a0), (3, .long x3_27)] → W p l e (rmD 0) s m args below meth c H locs 0 0 Q (F0 m 27 ls [.int xs0_27]) := by
    intro J_27 H locs ls xs0_27 x3_27 hH sm rs0_27 hl
    refine lv_istore (lv' := [(5, .int xs0_27), (0, .ref a0), (3, .long x3_27)]) hx hb dX11_plus_27 hl (by decide) rfl (fun ls hl => ?_)
    refine lv_aload_n hx hb dX11_plus_29 rfl (lv_at hl 1 rfl) ?_
    refine lv_lload_n hx hb dX11_plus_30 rfl (lv_at hl 2 rfl) ?_
    refine pf_11_55 hx hb hts hown hH m0 k0 rfl kf_X11_290 dX11_plus_31 (fun J1 H locs eJ1 hH => ?_)
    have sm : Sm C ms_X11_plus (I, J, R) (I, J1, R) := by rw [eJ1]; exact sm.stJ k0 (mC_obj (by decide) rfl)
    refine lv_iload hx hb dX11_plus_34 (lv_at hl 0 rfl) ?_
    exact ret (xs0_27) _ _ _ _ _ _ _ dX11_plus_36 hH (Rg_01 (Rg_w rs0_27 (by decide))) ⟨⟨oI, oR, sm⟩, rfl, rfl, rs0_27⟩
  refine lv_aload_n hx hb dX11_plus_0 rfl (lv_at hl 0 rfl) ?_
  refine gf_11_55 hx hb hts hown hH m0 k0 rfl kf_X11_290 dX11_plus_1 ?_
  refine lv_topl (fun w2 ew2 => ?_)
  refine lv_lload_n hx hb dX11_plus_4 rfl (lv_at hl 1 rfl) ?_
  refine lv_ladd hx hb dX11_plus_5 ?_
  refine lv_topl (fun w3 ew3 => ?_)
  refine lv_lstore_n (lv' := [(3, .long w3), (0, .ref a0), (1, .long x1)]) hx hb dX11_plus_6 rfl hl (by decide) rfl (fun ls hl => ?_)
  refine lv_aload_n hx hb dX11_plus_7 rfl (lv_at hl 1 rfl) ?_
  refine gf_11_55 hx hb hts hown hH m0 k0 rfl kf_X11_290 dX11_plus_8 ?_
  refine lv_topl (fun w4 ew4 => ?_)
  refine lv_lload_n hx hb dX11_plus_11 rfl (lv_at hl 0 rfl) ?_
  refine lv_lxor hx hb dX11_plus_12 ?_
  refine lv_topl (fun w5 ew5 => ?_)
  refine lv_lload_n hx hb dX11_plus_13 rfl (lv_at hl 2 rfl) ?_
  refine lv_lload_n hx hb dX11_plus_14 rfl (lv_at hl 0 rfl) ?_
  refine lv_lxor hx hb dX11_plus_15 ?_
  refine lv_topl (fun w6 ew6 => ?_)
  refine lv_land hx hb dX11_plus_16 ?_
  refine lv_topl (fun w7 ew7 => ?_)
  refine lv_lconst (v := 0) hx hb dX11_plus_17 (by decide) ?_
  refine W.lcmp hx hb dX11_plus_18 ?_
  refine lv_topi (fun y8 ey8 => ?_)
  refine lv_if_lt (tgt := 26) hx hb dX11_plus_19 (by decide) (fun q9 => ?_) (fun q9 => ?_)
  · have l10 := lc_lt ey8 q9
    have r11 : Rg y8 (-2147483648) (-1) := Rg_ult (Rg_any y8) (Rg_lt q9) (Rg_c (x := 0) (a := (0)) (b := (0)) (by decide)) (by decide)
    refine lv_iconst (v := 0) hx hb dX11_plus_26 (by decide) ?_
    exact L_27 J _ _ _ 0 w3 hH sm (Rg_w (Rg_c (x := 0) (a := (0)) (b := (0)) (by decide)) (by decide)) (lv_sub hl [1, 0] rfl)
  have l12 := lc_nlt ey8 q9
  have r13 : Rg y8 (0) (2147483647) := Rg_lle (Rg_any y8) (Rg_nlt q9) (Rg_c (x := 0) (a := (0)) (b := (0)) (by decide)) (by decide)
  refine lv_iconst (v := 1) hx hb dX11_plus_22 (by decide) ?_
  refine lv_goto (tgt := 27) hx hb dX11_plus_23 (by decide) ?_
  exact L_27 J _ _ _ 1 w3 hH sm (Rg_w (Rg_c (x := 1) (a := (1)) (b := (1)) (by decide)) (by decide)) (lv_sub hl [1, 0] rfl)
def ms_X11_counted : List Nat := [733, 734]
set_option maxHeartbeats 4000000 in
set_option maxRecDepth 100000 in
theorem c_X11_counted {l : Launch} {D : va_G} {cy : Nat → ClassId} {L : List Nat} {C : Nat → Nat} {b0 : Nat} {I : hI} {J : hJ} {R : hR} {a0 : Nat} {x1 : Int32} (oI : OkI L C I) (oR : OkR L C R) (m0 : a0 ∈ L) (k0 : C a0 = 11) : CI l yX11_counted cX11_counted 2 .int 0 D cy L C b0 [.ref a0, .int x1] (I, J, R) (fun r v => Ps L C ms_X11_counted (I, J, R) v ∧ v.2.1 = J ∧ v.2.2 = R) := by
  refine CI.mkI (by decide) (Nat.le_of_ble_eq_true rfl) ?_
  intro p e s m args below meth c ls Q hF ret hH hl
  obtain ⟨hx, hb, -, hml, hown, hts, -⟩ := hF
  have hl : lv_has ls 2 [(0, .ref a0), (1, .int x1)] := hl
  have hH : Hp D cy L C b0 s s.heap I J R s.heap [] := hH
  have sm : Sm C ms_X11_counted (I, J, R) (I, J, R) := Sm.rf
  have L_34 : ∀ (I_34 : hI) (H : Heap) (locs : List Loc) (ls : Array Slot) (xs0_34 : Int32) (xs1_34 : Int32), Hp D cy L C b0 s s.heap I_34 J R H locs → OkI L C I_34 → Sm C ms_X11_counted (I, J, R) (I_34, J, R) → Rg xs0_34 (0) (1) → lv_has ls 2 [(1, .int x1)] → W p l e (rmD 0) s m args below meth c H locs 0 0 Q (F0 m 34 ls [.int xs0_34, .int xs1_34, .ref a0]) := by
    intro I_34 H locs ls xs0_34 xs1_34 hH oI sm rs0_34 hl
    refine lv_iadd hx hb dX11_counted_34 ?_
    refine lv_topi (fun y1 ey1 => ?_)
    refine pf_11_30 hx hb hts hown hH m0 k0 rfl kf_X11_309 dX11_counted_35 (fun I2 H locs eI2 hH => ?_)
    have oI : OkI L C I2 := by rw [eI2]; exact wf_11_30 oI k0 (Rg_any y1)
    have sm : Sm C ms_X11_counted (I, J, R) (I2, J, R) := by rw [eI2]; exact sm.stI k0 (mC_obj (by decide) rfl)
    have f3 : y1 = I2 a0 30 := by rw [eI2, u2_at]
    refine lv_iload_n hx hb dX11_counted_38 rfl (lv_at hl 0 rfl) ?_
    exact ret (x1) _ _ _ _ _ _ _ dX11_counted_39 hH ⟨⟨oI, oR, sm⟩, rfl, rfl⟩
  have L_14 : ∀ (I_14 : hI) (H : Heap) (locs : List Loc) (ls : Array Slot) (xs0_14 : Int32) (xs1_14 : Int32), Hp D cy L C b0 s s.heap I_14 J R H locs → OkI L C I_14 → Sm C ms_X11_counted (I, J, R) (I_14, J, R) → Rg xs0_14 (0) (1) → lv_has ls 2 [(0, .ref a0), (1, .int x1)] → W p l e (rmD 0) s m args below meth c H locs 0 0 Q (F0 m 14 ls [.int xs0_14, .int xs1_14, .ref a0]) := by
    intro I_14 H locs ls xs0_14 xs1_14 hH oI sm rs0_14 hl
    refine lv_iadd hx hb dX11_counted_14 ?_
    refine lv_topi (fun y4 ey4 => ?_)
    refine pf_11_29 hx hb hts hown hH m0 k0 rfl kf_X11_306 dX11_counted_15 (fun I5 H locs eI5 hH => ?_)
    have oI : OkI L C I5 := by rw [eI5]; exact wf_11_29 oI k0 (Rg_any y4)
    have sm : Sm C ms_X11_counted (I, J, R) (I5, J, R) := by rw [eI5]; exact sm.stI k0 (mC_obj (by decide) rfl)
    have f6 : y4 = I5 a0 29 := by rw [eI5, u2_at]
    refine lv_aload_n hx hb dX11_counted_18 rfl (lv_at hl 0 rfl) ?_
    refine lv_dup hx hb dX11_counted_19 rfl ?_
    refine gf_11_30 hx hb hts hown hH m0 k0 rfl kf_X11_309 dX11_counted_20 ?_
    refine lv_topi (fun y7 ey7 => ?_)
    refine lv_iload_n hx hb dX11_counted_23 rfl (lv_at hl 1 rfl) ?_
    refine lv_bipush (v := (-7)) hx hb dX11_counted_24 (by decide) ?_
    refine lv_icmp_ne (tgt := 33) hx hb dX11_counted_26 (by decide) (fun q8 => ?_) (fun q8 => ?_)
    · refine lv_iconst (v := 0) hx hb dX11_counted_33 (by decide) ?_
      exact L_34 I5 _ _ _ 0 y7 hH oI sm (Rg_w (Rg_c (x := 0) (a := (0)) (b := (0)) (by decide)) (by decide)) (lv_sub hl [1] rfl)
    have r9 : Rg x1 (-7) (-7) := Rg_both (Rg_any x1) (Rg_eqv q8 (Rg_c (x := (-7)) (a := (-7)) (b := (-7)) (by decide))) (by decide)
    refine lv_iconst (v := 1) hx hb dX11_counted_29 (by decide) ?_
    refine lv_goto (tgt := 34) hx hb dX11_counted_30 (by decide) ?_
    exact L_34 I5 _ _ _ 1 y7 hH oI sm (Rg_w (Rg_c (x := 1) (a := (1)) (b := (1)) (by decide)) (by decide)) (lv_sub hl [1] rfl)
  refine lv_aload_n hx hb dX11_counted_0 rfl (lv_at hl 0 rfl) ?_
  refine lv_dup hx hb dX11_counted_1 rfl ?_
  refine gf_11_29 hx hb hts hown hH m0 k0 rfl kf_X11_306 dX11_counted_2 ?_
  refine lv_topi (fun y10 ey10 => ?_)
  refine lv_iload_n hx hb dX11_counted_5 rfl (lv_at hl 1 rfl) ?_
  refine lv_if_ne (tgt := 13) hx hb dX11_counted_6 (by decide) (fun q11 => ?_) (fun q11 => ?_)
  · refine lv_iconst (v := 0) hx hb dX11_counted_13 (by decide) ?_
    exact L_14 I _ _ _ 0 y10 hH oI sm (Rg_w (Rg_c (x := 0) (a := (0)) (b := (0)) (by decide)) (by decide)) (lv_sub hl [0, 1] rfl)
  have r12 : Rg x1 (0) (0) := Rg_both (Rg_any x1) (Rg_eqv q11 (Rg_c (x := 0) (a := (0)) (b := (0)) (by decide))) (by decide)
  refine lv_iconst (v := 1) hx hb dX11_counted_9 (by decide) ?_
  refine lv_goto (tgt := 14) hx hb dX11_counted_10 (by decide) ?_
  exact L_14 I _ _ _ 1 y10 hH oI sm (Rg_w (Rg_c (x := 1) (a := (1)) (b := (1)) (by decide)) (by decide)) (lv_sub hl [0, 1] rfl)
set_option maxHeartbeats 4000000 in
set_option maxRecDepth 100000 in
theorem c_X11_isAhead {l : Launch} {D : va_G} {cy : Nat → ClassId} {L : List Nat} {C : Nat → Nat} {b0 : Nat} {I : hI} {J : hJ} {R : hR} {a0 : Nat} {x1 : Int32} {x2 : Int32} {x3 : Int32} {x4 : Int32} (oI : OkI L C I) (oR : OkR L C R) (m0 : a0 ∈ L) (k0 : C a0 = 11) (h1 : Rg x1 (0) (288)) (h2 : Rg x2 (0) (31)) (h3 : Rg x3 (0) (288)) (h4 : Rg x4 (1) (6)) : CI l yX11_isAhead cX11_isAhead 7 .boolean 0 D cy L C b0 [.ref a0, .int x1, .int x2, .int x3, .int x4] (I, J, R) (fun r v => v.1 = I ∧ v.2.1 = J ∧ v.2.2 = R ∧ Rg r (0) (1)) := by
  refine CI.mkZ (by decide) (Nat.le_of_ble_eq_true rfl) ?_
  intro p e s m args below meth c ls Q hF ret hH hl
  obtain ⟨hx, hb, -, hml, hown, hts, -⟩ := hF
  have hl : lv_has ls 7 [(0, .ref a0), (1, .int x1), (2, .int x2), (3, .int x3), (4, .int x4)] := hl
  have hH : Hp D cy L C b0 s s.heap I J R s.heap [] := hH
  have L_3 : ∀ (n : Nat) (H : Heap) (locs : List Loc) (ls : Array Slot) (x5_3 : Int32), (6 - x5_3.toInt).toNat < n → Hp D cy L C b0 s s.heap I J R H locs → Rg x1 (0) (288) → Rg x2 (0) (31) → Rg x3 (0) (288) → Rg x4 (1) (6) → Rg x5_3 (0) (6) → lv_has ls 7 [(0, .ref a0), (1, .int x1), (2, .int x2), (3, .int x3), (4, .int x4), (5, .int x5_3)] → W p l e (rmD 0) s m args below meth c H locs 0 0 Q (F0 m 3 ls []) := by
    intro n
    induction n with
    | zero => intro H locs ls x5_3 h; exact absurd h (Nat.not_lt_zero _)
    | succ n ih_3 =>
      intro H locs ls x5_3 hn_3 hH r1_3 r2_3 r3_3 r4_3 r5_3 hl
      have L_67 : ∀ (H : Heap) (locs : List Loc) (ls : Array Slot) (xs0_67 : Int32), Hp D cy L C b0 s s.heap I J R H locs → Rg xs0_67 (0) (1) → lv_has ls 7 [] → W p l e (rmD 0) s m args below meth c H locs 0 0 Q (F0 m 67 ls [.int xs0_67]) := by
        intro H locs ls xs0_67 hH rs0_67 hl
        exact ret (xs0_67) _ _ _ _ _ _ _ dX11_isAhead_67 hH (Rg_01 (Rg_w rs0_67 (by decide))) ⟨rfl, rfl, rfl, rs0_67⟩
      have L_32 : ∀ (H : Heap) (locs : List Loc) (ls : Array Slot) (xs0_32 : Int32), Hp D cy L C b0 s s.heap I J R H locs → Rg xs0_32 (0) (31) → Rg x1 (0) (288) → Rg x2 (0) (31) → Rg x3 (0) (288) → Rg x4 (1) (6) → Rg x5_3 (0) (5) → lv_has ls 7 [(0, .ref a0), (1, .int x1), (2, .int x2), (3, .int x3), (4, .int x4), (5, .int x5_3)] → W p l e (rmD 0) s m args below meth c H locs 0 0 Q (F0 m 32 ls [.int xs0_32]) := by
        intro H locs ls xs0_32 hH rs0_32 r1_32 r2_32 r3_32 r4_32 r5_32 hl
        refine lv_istore (lv' := [(6, .int xs0_32), (0, .ref a0), (1, .int x1), (2, .int x2), (3, .int x3), (4, .int x4), (5, .int x5_3)]) hx hb dX11_isAhead_32 hl (by decide) rfl (fun ls hl => ?_)
        refine lv_iload hx hb dX11_isAhead_34 (lv_at hl 0 rfl) ?_
        refine lv_aload_n hx hb dX11_isAhead_36 rfl (lv_at hl 1 rfl) ?_
        obtain ⟨b1, mb1, vb1, kb1⟩ := rf_11_36 oR m0 k0
        refine gf_11_36 vb1 hx hb hts hown hH m0 k0 rfl kf_X11_87 dX11_isAhead_37 ?_
        refine lv_iload_n hx hb dX11_isAhead_40 rfl (lv_at hl 4 rfl) ?_
        refine lv_iload hx hb dX11_isAhead_41 (lv_at hl 6 rfl) ?_
        refine lv_iadd hx hb dX11_isAhead_43 ?_
        refine lv_topi (fun y2 ey2 => ?_)
        obtain ⟨ty2, ry2⟩ := Rg_addx (a' := (0)) (b' := (293)) (rfl : x3.toInt = _) (rfl : x5_3.toInt = _) r3_32 r5_32 (by decide)
        rw [← ey2] at ty2 ry2
        refine ld_89 hx hb hH mb1 kb1 (Rg_in ry2 (by decide)) dX11_isAhead_44 ?_
        refine lv_topi (fun y3 ey3 => ?_)
        have ry3 : Rg y3 (0) (31) := by rw [ey3]; exact rd_89 oI mb1 kb1 (Rg_in ry2 (by decide))
        refine lv_icmp_eq (tgt := 68) hx hb dX11_isAhead_45 (by decide) (fun q4 => ?_) (fun q4 => ?_)
        · obtain ⟨y5, ey5⟩ : ∃ y : Int32, y = x5_3 + 1 := ⟨_, rfl⟩
          obtain ⟨ty5, ry5⟩ := Rg_addx (a' := (1)) (b' := (6)) (rfl : x5_3.toInt = _) (by decide : Int32.toInt 1 = 1) r5_32 (Rg_c (x := 1) (a := (1)) (b := (1)) (by decide)) (by decide)
          rw [← ey5] at ty5 ry5
          refine lv_iinc (v := y5) (lv' := [(5, .int y5), (6, .int xs0_32), (0, .ref a0), (1, .int x1), (2, .int x2), (3, .int x3), (4, .int x4)]) hx hb dX11_isAhead_68 hl (k := 6) rfl (by rw [ey5]; rfl) (by decide) rfl (fun ls hl => ?_)
          refine lv_goto (tgt := 3) hx hb dX11_isAhead_71 (by decide) ?_
          exact ih_3 _ _ _ y5 (lp_up hn_3 ty5 (Rg_ltc r5_32 (by decide))) hH r1_32 r2_32 r3_32 r4_32 (Rg_w ry5 (by decide)) (lv_sub hl [2, 3, 4, 5, 6, 0] rfl)
        refine lv_iload hx hb dX11_isAhead_48 (lv_at hl 0 rfl) ?_
        refine lv_aload_n hx hb dX11_isAhead_50 rfl (lv_at hl 1 rfl) ?_
        refine gf_11_36 vb1 hx hb hts hown hH m0 k0 rfl kf_X11_87 dX11_isAhead_51 ?_
        refine lv_iload_n hx hb dX11_isAhead_54 rfl (lv_at hl 4 rfl) ?_
        refine lv_iload hx hb dX11_isAhead_55 (lv_at hl 6 rfl) ?_
        refine lv_iadd hx hb dX11_isAhead_57 ?_
        refine lv_topi (fun y6 ey6 => ?_)
        obtain ⟨ty6, ry6⟩ := Rg_addx (a' := (0)) (b' := (293)) (rfl : x3.toInt = _) (rfl : x5_3.toInt = _) r3_32 r5_32 (by decide)
        rw [← ey6] at ty6 ry6
        refine ld_89 hx hb hH mb1 kb1 (Rg_in ry6 (by decide)) dX11_isAhead_58 ?_
        refine lv_topi (fun y7 ey7 => ?_)
        have ry7 : Rg y7 (0) (31) := by rw [ey7]; exact rd_89 oI mb1 kb1 (Rg_in ry6 (by decide))
        refine lv_icmp_ge (tgt := 66) hx hb dX11_isAhead_59 (by decide) (fun q8 => ?_) (fun q8 => ?_)
        · refine lv_iconst (v := 0) hx hb dX11_isAhead_66 (by decide) ?_
          exact L_67 _ _ _ 0 hH (Rg_w (Rg_c (x := 0) (a := (0)) (b := (0)) (by decide)) (by decide)) (lv_sub hl [] rfl)
        have r9 : Rg xs0_32 (0) (30) := Rg_ult rs0_32 (Rg_nle q8) ry7 (by decide)
        have r10 : Rg y7 (1) (31) := Rg_llt ry7 (Rg_nle q8) rs0_32 (by decide)
        refine lv_iconst (v := 1) hx hb dX11_isAhead_62 (by decide) ?_
        refine lv_goto (tgt := 67) hx hb dX11_isAhead_63 (by decide) ?_
        exact L_67 _ _ _ 1 hH (Rg_w (Rg_c (x := 1) (a := (1)) (b := (1)) (by decide)) (by decide)) (lv_sub hl [] rfl)
      refine lv_iload hx hb dX11_isAhead_3 (lv_at hl 5 rfl) ?_
      refine lv_iload hx hb dX11_isAhead_5 (lv_at hl 4 rfl) ?_
      refine lv_icmp_ge (tgt := 74) hx hb dX11_isAhead_7 (by decide) (fun q11 => ?_) (fun q11 => ?_)
      · have r12 : Rg x5_3 (1) (6) := Rg_lle r5_3 (Rg_le q11) r4_3 (by decide)
        refine lv_iconst (v := 0) hx hb dX11_isAhead_74 (by decide) ?_
        exact ret (0) _ _ _ _ _ _ _ dX11_isAhead_75 hH (Rg_01 (Rg_w (Rg_c (x := 0) (a := (0)) (b := (0)) (by decide)) (by decide))) ⟨rfl, rfl, rfl, (Rg_w (Rg_c (x := 0) (a := (0)) (b := (0)) (by decide)) (by decide))⟩
      have r13 : Rg x5_3 (0) (5) := Rg_ult r5_3 (Rg_nle q11) r4_3 (by decide)
      refine lv_iload hx hb dX11_isAhead_10 (lv_at hl 5 rfl) ?_
      refine lv_iload hx hb dX11_isAhead_12 (lv_at hl 4 rfl) ?_
      refine lv_iconst (v := 1) hx hb dX11_isAhead_14 (by decide) ?_
      refine lv_isub hx hb dX11_isAhead_15 ?_
      refine lv_topi (fun y14 ey14 => ?_)
      obtain ⟨ty14, ry14⟩ := Rg_subx (a' := (0)) (b' := (5)) (rfl : x4.toInt = _) (by decide : Int32.toInt 1 = 1) r4_3 (Rg_c (x := 1) (a := (1)) (b := (1)) (by decide)) (by decide)
      rw [← ey14] at ty14 ry14
      refine lv_icmp_ne (tgt := 23) hx hb dX11_isAhead_16 (by decide) (fun q15 => ?_) (fun q15 => ?_)
      rotate_left
      · refine lv_iload_n hx hb dX11_isAhead_19 rfl (lv_at hl 2 rfl) ?_
        refine lv_goto (tgt := 32) hx hb dX11_isAhead_20 (by decide) ?_
        exact L_32 _ _ _ x2 hH r2_3 r1_3 r2_3 r3_3 r4_3 r13 (lv_sub hl [0, 1, 2, 3, 4, 5] rfl)
      refine lv_aload_n hx hb dX11_isAhead_23 rfl (lv_at hl 0 rfl) ?_
      obtain ⟨b16, mb16, vb16, kb16⟩ := rf_11_36 oR m0 k0
      refine gf_11_36 vb16 hx hb hts hown hH m0 k0 rfl kf_X11_87 dX11_isAhead_24 ?_
      refine lv_iload_n hx hb dX11_isAhead_27 rfl (lv_at hl 1 rfl) ?_
      refine lv_iload hx hb dX11_isAhead_28 (lv_at hl 5 rfl) ?_
      refine lv_iadd hx hb dX11_isAhead_30 ?_
      refine lv_topi (fun y17 ey17 => ?_)
      obtain ⟨ty17, ry17⟩ := Rg_addx (a' := (0)) (b' := (293)) (rfl : x1.toInt = _) (rfl : x5_3.toInt = _) r1_3 r13 (by decide)
      rw [← ey17] at ty17 ry17
      refine ld_89 hx hb hH mb16 kb16 (Rg_in ry17 (by decide)) dX11_isAhead_31 ?_
      refine lv_topi (fun y18 ey18 => ?_)
      have ry18 : Rg y18 (0) (31) := by rw [ey18]; exact rd_89 oI mb16 kb16 (Rg_in ry17 (by decide))
      exact L_32 _ _ _ y18 hH ry18 r1_3 r2_3 r3_3 r4_3 r13 (lv_sub hl [0, 1, 2, 3, 4, 5] rfl)
  refine lv_iconst (v := 0) hx hb dX11_isAhead_0 (by decide) ?_
  refine lv_istore (lv' := [(5, .int 0), (0, .ref a0), (1, .int x1), (2, .int x2), (3, .int x3), (4, .int x4)]) hx hb dX11_isAhead_1 hl (by decide) rfl (fun ls hl => ?_)
  exact L_3 ((6 - (0 : Int32).toInt).toNat + 1) _ _ _ 0 (Nat.lt_succ_self _) hH h1 h2 h3 h4 (Rg_w (Rg_c (x := 0) (a := (0)) (b := (0)) (by decide)) (by decide)) (lv_sub hl [1, 2, 3, 4, 5, 0] rfl)
