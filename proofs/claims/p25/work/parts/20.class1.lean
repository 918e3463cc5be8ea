noncomputable def F_X10_isSort (x1 : Int32) : Int32 :=
  nm (F_X10_isWithin x1 (0 : Int32) (6 : Int32)) fun y1 => (if y1 = (1 : Int32) then (1 : Int32) else (0 : Int32))
set_option maxHeartbeats 4000000 in
set_option maxRecDepth 100000 in
theorem c_X10_isSort {l : Launch} {D : va_G} {cy : Nat → ClassId} {L : List Nat} {C : Nat → Nat} {b0 : Nat} {I : hI} {J : hJ} {R : hR} {x1 : Int32}  : CI l yX10_isSort cX10_isSort 1 .boolean 1 D cy L C b0 [.int x1] (I, J, R) (fun r v => v.1 = I ∧ v.2.1 = J ∧ v.2.2 = R ∧ Rg r (0) (1) ∧ ((r = 1 ∧ 0 ≤ x1.toInt ∧ x1.toInt ≤ 6) ∨ (r = 0 ∧ ¬ (0 ≤ x1.toInt ∧ x1.toInt ≤ 6))) ∧ F_X10_isSort x1 = r) := by
  refine CI.mkZ (plainFor_of_name (by decide)) (Nat.le_of_ble_eq_true rfl) ?_
  intro p e s m args below meth c ls Q hF ret hH hl
  obtain ⟨hx, hb, -, hml, hown, hts, -⟩ := hF
  have hl : lv_has ls 1 [(0, .int x1)] := hl
  have hH : Hp D cy L C b0 s s.heap I J R s.heap [] := hH
  obtain ⟨TT0, hT⟩ : ∃ TT0, TT0 = F_X10_isSort x1 := ⟨_, rfl⟩
  have hv := hT
  unfold F_X10_isSort at hv
  refine lv_iload_n hx hb dX10_isSort_0 rfl (lv_at hl 0 rfl) ?_
  refine lv_iconst (v := 0) hx hb dX10_isSort_1 (by decide) ?_
  refine lv_bipush (v := 6) hx hb dX10_isSort_2 (by decide) ?_
  refine ca_X10_82 hx hb hml hown hts hH (c_X10_isWithin ) hl.1 (by decide) (Nat.le_of_ble_eq_true rfl) ⟨Nat.zero_le _, Nat.zero_le _⟩ dX10_isSort_4 (fun y1 I1 J1 R1 H locs hp hH => ?_)
  obtain ⟨eI1, eJ1, eR1, ry1, hp1, hf1⟩ := hp
  obtain rfl : I = I1 := eI1.symm
  obtain rfl : J = J1 := eJ1.symm
  obtain rfl : R = R1 := eR1.symm
  replace hv := fnS hv hf1.symm
  rcases hp1 with ⟨rfl, hq1⟩ | ⟨rfl, hq1⟩
  rotate_left
  · replace hv := fnN hv (by decide)
    exact ret (0) _ _ _ _ _ _ _ dX10_isSort_7 hH (Rg_01 (Rg_w (Rg_c (x := 0) (a := (0)) (b := (0)) (by decide)) (by decide))) ⟨rfl, rfl, rfl, (Rg_w (Rg_c (x := 0) (a := (0)) (b := (0)) (by decide)) (by decide)), (by have c0 : Int32.toInt 0 = 0 := (by decide); have c6 : Int32.toInt 6 = 6 := (by decide); exact Or.inr ⟨rfl, by omega⟩), (hT.symm.trans hv)⟩
  replace hv := fnP hv rfl
  have l2 := hq1.1
  have r3 : Rg x1 (0) (2147483647) := Rg_lle (Rg_any x1) l2 (Rg_c (x := 0) (a := (0)) (b := (0)) (by decide)) (by decide)
  have l4 := hq1.2
  have r5 : Rg x1 (0) (6) := Rg_ule r3 l4 (Rg_c (x := 6) (a := (6)) (b := (6)) (by decide)) (by decide)
  exact ret (1) _ _ _ _ _ _ _ dX10_isSort_7 hH (Rg_01 (Rg_w (Rg_c (x := 1) (a := (1)) (b := (1)) (by decide)) (by decide))) ⟨rfl, rfl, rfl, (Rg_w (Rg_c (x := 1) (a := (1)) (b := (1)) (by decide)) (by decide)), (by have c0 : Int32.toInt 0 = 0 := (by decide); have c6 : Int32.toInt 6 = 6 := (by decide); have d1 := r5; obtain ⟨d1a, d1b⟩ := d1; exact Or.inl ⟨rfl, by omega⟩), (hT.symm.trans hv)⟩
noncomputable def F_X10_isName (x1 : Int32) : Int32 :=
  nm (F_X10_isWithin x1 (0 : Int32) (99 : Int32)) fun y1 => (if y1 = (1 : Int32) then (1 : Int32) else (0 : Int32))
set_option maxHeartbeats 4000000 in
set_option maxRecDepth 100000 in
theorem c_X10_isName {l : Launch} {D : va_G} {cy : Nat → ClassId} {L : List Nat} {C : Nat → Nat} {b0 : Nat} {I : hI} {J : hJ} {R : hR} {x1 : Int32}  : CI l yX10_isName cX10_isName 1 .boolean 1 D cy L C b0 [.int x1] (I, J, R) (fun r v => v.1 = I ∧ v.2.1 = J ∧ v.2.2 = R ∧ Rg r (0) (1) ∧ ((r = 1 ∧ 0 ≤ x1.toInt ∧ x1.toInt ≤ 99) ∨ (r = 0 ∧ ¬ (0 ≤ x1.toInt ∧ x1.toInt ≤ 99))) ∧ F_X10_isName x1 = r) := by
  refine CI.mkZ (plainFor_of_name (by decide)) (Nat.le_of_ble_eq_true rfl) ?_
  intro p e s m args below meth c ls Q hF ret hH hl
  obtain ⟨hx, hb, -, hml, hown, hts, -⟩ := hF
  have hl : lv_has ls 1 [(0, .int x1)] := hl
  have hH : Hp D cy L C b0 s s.heap I J R s.heap [] := hH
  obtain ⟨TT0, hT⟩ : ∃ TT0, TT0 = F_X10_isName x1 := ⟨_, rfl⟩
  have hv := hT
  unfold F_X10_isName at hv
  refine lv_iload_n hx hb dX10_isName_0 rfl (lv_at hl 0 rfl) ?_
  refine lv_iconst (v := 0) hx hb dX10_isName_1 (by decide) ?_
  refine lv_bipush (v := 99) hx hb dX10_isName_2 (by decide) ?_
  refine ca_X10_82 hx hb hml hown hts hH (c_X10_isWithin ) hl.1 (by decide) (Nat.le_of_ble_eq_true rfl) ⟨Nat.zero_le _, Nat.zero_le _⟩ dX10_isName_4 (fun y1 I1 J1 R1 H locs hp hH => ?_)
  obtain ⟨eI1, eJ1, eR1, ry1, hp1, hf1⟩ := hp
  obtain rfl : I = I1 := eI1.symm
  obtain rfl : J = J1 := eJ1.symm
  obtain rfl : R = R1 := eR1.symm
  replace hv := fnS hv hf1.symm
  rcases hp1 with ⟨rfl, hq1⟩ | ⟨rfl, hq1⟩
  rotate_left
  · replace hv := fnN hv (by decide)
    exact ret (0) _ _ _ _ _ _ _ dX10_isName_7 hH (Rg_01 (Rg_w (Rg_c (x := 0) (a := (0)) (b := (0)) (by decide)) (by decide))) ⟨rfl, rfl, rfl, (Rg_w (Rg_c (x := 0) (a := (0)) (b := (0)) (by decide)) (by decide)), (by have c0 : Int32.toInt 0 = 0 := (by decide); have c99 : Int32.toInt 99 = 99 := (by decide); exact Or.inr ⟨rfl, by omega⟩), (hT.symm.trans hv)⟩
  replace hv := fnP hv rfl
  have l2 := hq1.1
  have r3 : Rg x1 (0) (2147483647) := Rg_lle (Rg_any x1) l2 (Rg_c (x := 0) (a := (0)) (b := (0)) (by decide)) (by decide)
  have l4 := hq1.2
  have r5 : Rg x1 (0) (99) := Rg_ule r3 l4 (Rg_c (x := 99) (a := (99)) (b := (99)) (by decide)) (by decide)
  exact ret (1) _ _ _ _ _ _ _ dX10_isName_7 hH (Rg_01 (Rg_w (Rg_c (x := 1) (a := (1)) (b := (1)) (by decide)) (by decide))) ⟨rfl, rfl, rfl, (Rg_w (Rg_c (x := 1) (a := (1)) (b := (1)) (by decide)) (by decide)), (by have c0 : Int32.toInt 0 = 0 := (by decide); have c99 : Int32.toInt 99 = 99 := (by decide); have d1 := r5; obtain ⟨d1a, d1b⟩ := d1; exact Or.inl ⟨rfl, by omega⟩), (hT.symm.trans hv)⟩
noncomputable def F_X10_areFaces (x1 : Int32) (x2 : Int32) : Int32 :=
  nm (F_X10_isWithin x1 (0 : Int32) (9 : Int32)) fun y1 => (if y1 = (1 : Int32) then nm (F_X10_isWithin x2 (0 : Int32) (9 : Int32)) fun y7 => (if y7 = (1 : Int32) then (1 : Int32) else (0 : Int32)) else (0 : Int32))
set_option maxHeartbeats 4000000 in
set_option maxRecDepth 100000 in
theorem c_X10_areFaces {l : Launch} {D : va_G} {cy : Nat → ClassId} {L : List Nat} {C : Nat → Nat} {b0 : Nat} {I : hI} {J : hJ} {R : hR} {x1 : Int32} {x2 : Int32}  : CI l yX10_areFaces cX10_areFaces 2 .boolean 1 D cy L C b0 [.int x1, .int x2] (I, J, R) (fun r v => v.1 = I ∧ v.2.1 = J ∧ v.2.2 = R ∧ Rg r (0) (1) ∧ ((r = 1 ∧ 0 ≤ x1.toInt ∧ x1.toInt ≤ 9 ∧ 0 ≤ x2.toInt ∧ x2.toInt ≤ 9) ∨ (r = 0 ∧ ¬ (0 ≤ x1.toInt ∧ x1.toInt ≤ 9 ∧ 0 ≤ x2.toInt ∧ x2.toInt ≤ 9))) ∧ F_X10_areFaces x1 x2 = r) := by
  refine CI.mkZ (plainFor_of_name (by decide)) (Nat.le_of_ble_eq_true rfl) ?_
  intro p e s m args below meth c ls Q hF ret hH hl
  obtain ⟨hx, hb, -, hml, hown, hts, -⟩ := hF
  have hl : lv_has ls 2 [(0, .int x1), (1, .int x2)] := hl
  have hH : Hp D cy L C b0 s s.heap I J R s.heap [] := hH
  obtain ⟨TT0, hT⟩ : ∃ TT0, TT0 = F_X10_areFaces x1 x2 := ⟨_, rfl⟩
  have hv := hT
  unfold F_X10_areFaces at hv
  refine lv_iload_n hx hb dX10_areFaces_0 rfl (lv_at hl 0 rfl) ?_
  refine lv_iconst (v := 0) hx hb dX10_areFaces_1 (by decide) ?_
  refine lv_bipush (v := 9) hx hb dX10_areFaces_2 (by decide) ?_
  refine ca_X10_82 hx hb hml hown hts hH (c_X10_isWithin ) hl.1 (by decide) (Nat.le_of_ble_eq_true rfl) ⟨Nat.zero_le _, Nat.zero_le _⟩ dX10_areFaces_4 (fun y1 I1 J1 R1 H locs hp hH => ?_)
  obtain ⟨eI1, eJ1, eR1, ry1, hp1, hf1⟩ := hp
  obtain rfl : I = I1 := eI1.symm
  obtain rfl : J = J1 := eJ1.symm
  obtain rfl : R = R1 := eR1.symm
  replace hv := fnS hv hf1.symm
  rcases hp1 with ⟨rfl, hq1⟩ | ⟨rfl, hq1⟩
  rotate_left
  · replace hv := fnN hv (by decide)
    refine lv_if_eq (tgt := 24) hx hb dX10_areFaces_7 (by decide) (fun q14 => ?_) (fun q14 => ?_)
    rotate_left
    · exact absurd rfl q14
    refine lv_iconst (v := 0) hx hb dX10_areFaces_24 (by decide) ?_
    exact ret (0) _ _ _ _ _ _ _ dX10_areFaces_25 hH (Rg_01 (Rg_w (Rg_c (x := 0) (a := (0)) (b := (0)) (by decide)) (by decide))) ⟨rfl, rfl, rfl, (Rg_w (Rg_c (x := 0) (a := (0)) (b := (0)) (by decide)) (by decide)), (by have c0 : Int32.toInt 0 = 0 := (by decide); have c9 : Int32.toInt 9 = 9 := (by decide); exact Or.inr ⟨rfl, by omega⟩), (hT.symm.trans hv)⟩
  replace hv := fnP hv rfl
  have l2 := hq1.1
  have r3 : Rg x1 (0) (2147483647) := Rg_lle (Rg_any x1) l2 (Rg_c (x := 0) (a := (0)) (b := (0)) (by decide)) (by decide)
  have l4 := hq1.2
  have r5 : Rg x1 (0) (9) := Rg_ule r3 l4 (Rg_c (x := 9) (a := (9)) (b := (9)) (by decide)) (by decide)
  refine lv_if_eq (tgt := 24) hx hb dX10_areFaces_7 (by decide) (fun q6 => ?_) (fun q6 => ?_)
  · exact absurd q6 (by decide)
  refine lv_iload_n hx hb dX10_areFaces_10 rfl (lv_at hl 1 rfl) ?_
  refine lv_iconst (v := 0) hx hb dX10_areFaces_11 (by decide) ?_
  refine lv_bipush (v := 9) hx hb dX10_areFaces_12 (by decide) ?_
  refine ca_X10_82 hx hb hml hown hts hH (c_X10_isWithin ) hl.1 (by decide) (Nat.le_of_ble_eq_true rfl) ⟨Nat.zero_le _, Nat.zero_le _⟩ dX10_areFaces_14 (fun y7 I7 J7 R7 H locs hp hH => ?_)
  obtain ⟨eI7, eJ7, eR7, ry7, hp7, hf7⟩ := hp
  obtain rfl : I = I7 := eI7.symm
  obtain rfl : J = J7 := eJ7.symm
  obtain rfl : R = R7 := eR7.symm
  replace hv := fnS hv hf7.symm
  rcases hp7 with ⟨rfl, hq7⟩ | ⟨rfl, hq7⟩
  rotate_left
  · replace hv := fnN hv (by decide)
    refine lv_if_eq (tgt := 24) hx hb dX10_areFaces_17 (by decide) (fun q13 => ?_) (fun q13 => ?_)
    rotate_left
    · exact absurd rfl q13
    refine lv_iconst (v := 0) hx hb dX10_areFaces_24 (by decide) ?_
    exact ret (0) _ _ _ _ _ _ _ dX10_areFaces_25 hH (Rg_01 (Rg_w (Rg_c (x := 0) (a := (0)) (b := (0)) (by decide)) (by decide))) ⟨rfl, rfl, rfl, (Rg_w (Rg_c (x := 0) (a := (0)) (b := (0)) (by decide)) (by decide)), (by have c0 : Int32.toInt 0 = 0 := (by decide); have c9 : Int32.toInt 9 = 9 := (by decide); exact Or.inr ⟨rfl, by omega⟩), (hT.symm.trans hv)⟩
  replace hv := fnP hv rfl
  have l8 := hq7.1
  have r9 : Rg x2 (0) (2147483647) := Rg_lle (Rg_any x2) l8 (Rg_c (x := 0) (a := (0)) (b := (0)) (by decide)) (by decide)
  have l10 := hq7.2
  have r11 : Rg x2 (0) (9) := Rg_ule r9 l10 (Rg_c (x := 9) (a := (9)) (b := (9)) (by decide)) (by decide)
  refine lv_if_eq (tgt := 24) hx hb dX10_areFaces_17 (by decide) (fun q12 => ?_) (fun q12 => ?_)
  · exact absurd q12 (by decide)
  refine lv_iconst (v := 1) hx hb dX10_areFaces_20 (by decide) ?_
  refine lv_goto (tgt := 25) hx hb dX10_areFaces_21 (by decide) ?_
  exact ret (1) _ _ _ _ _ _ _ dX10_areFaces_25 hH (Rg_01 (Rg_w (Rg_c (x := 1) (a := (1)) (b := (1)) (by decide)) (by decide))) ⟨rfl, rfl, rfl, (Rg_w (Rg_c (x := 1) (a := (1)) (b := (1)) (by decide)) (by decide)), (by have c0 : Int32.toInt 0 = 0 := (by decide); have c9 : Int32.toInt 9 = 9 := (by decide); have d1 := r5; obtain ⟨d1a, d1b⟩ := d1; have d2 := r11; obtain ⟨d2a, d2b⟩ := d2; exact Or.inl ⟨rfl, by omega⟩), (hT.symm.trans hv)⟩
noncomputable def F_X10_areFaceAndShape (x1 : Int32) (x2 : Int32) : Int32 :=
  nm (F_X10_isWithin x1 (0 : Int32) (9 : Int32)) fun y1 => (if y1 = (1 : Int32) then nm (F_X10_isWithin x2 (0 : Int32) (19 : Int32)) fun y7 => (if y7 = (1 : Int32) then (1 : Int32) else (0 : Int32)) else (0 : Int32))
set_option maxHeartbeats 4000000 in
set_option maxRecDepth 100000 in
theorem c_X10_areFaceAndShape {l : Launch} {D : va_G} {cy : Nat → ClassId} {L : List Nat} {C : Nat → Nat} {b0 : Nat} {I : hI} {J : hJ} {R : hR} {x1 : Int32} {x2 : Int32}  : CI l yX10_areFaceAndShape cX10_areFaceAndShape 2 .boolean 1 D cy L C b0 [.int x1, .int x2] (I, J, R) (fun r v => v.1 = I ∧ v.2.1 = J ∧ v.2.2 = R ∧ Rg r (0) (1) ∧ ((r = 1 ∧ 0 ≤ x1.toInt ∧ x1.toInt ≤ 9 ∧ 0 ≤ x2.toInt ∧ x2.toInt ≤ 19) ∨ (r = 0 ∧ ¬ (0 ≤ x1.toInt ∧ x1.toInt ≤ 9 ∧ 0 ≤ x2.toInt ∧ x2.toInt ≤ 19))) ∧ F_X10_areFaceAndShape x1 x2 = r) := by
  refine CI.mkZ (plainFor_of_name (by decide)) (Nat.le_of_ble_eq_true rfl) ?_
  intro p e s m args below meth c ls Q hF ret hH hl
  obtain ⟨hx, hb, -, hml, hown, hts, -⟩ := hF
  have hl : lv_has ls 2 [(0, .int x1), (1, .int x2)] := hl
  have hH : Hp D cy L C b0 s s.heap I J R s.heap [] := hH
  obtain ⟨TT0, hT⟩ : ∃ TT0, TT0 = F_X10_areFaceAndShape x1 x2 := ⟨_, rfl⟩
  have hv := hT
  unfold F_X10_areFaceAndShape at hv
  refine lv_iload_n hx hb dX10_areFaceAndShape_0 rfl (lv_at hl 0 rfl) ?_
  refine lv_iconst (v := 0) hx hb dX10_areFaceAndShape_1 (by decide) ?_
  refine lv_bipush (v := 9) hx hb dX10_areFaceAndShape_2 (by decide) ?_
  refine ca_X10_82 hx hb hml hown hts hH (c_X10_isWithin ) hl.1 (by decide) (Nat.le_of_ble_eq_true rfl) ⟨Nat.zero_le _, Nat.zero_le _⟩ dX10_areFaceAndShape_4 (fun y1 I1 J1 R1 H locs hp hH => ?_)
  obtain ⟨eI1, eJ1, eR1, ry1, hp1, hf1⟩ := hp
  obtain rfl : I = I1 := eI1.symm
  obtain rfl : J = J1 := eJ1.symm
  obtain rfl : R = R1 := eR1.symm
  replace hv := fnS hv hf1.symm
  rcases hp1 with ⟨rfl, hq1⟩ | ⟨rfl, hq1⟩
  rotate_left
  · replace hv := fnN hv (by decide)
    refine lv_if_eq (tgt := 24) hx hb dX10_areFaceAndShape_7 (by decide) (fun q14 => ?_) (fun q14 => ?_)
    rotate_left
    · exact absurd rfl q14
    refine lv_iconst (v := 0) hx hb dX10_areFaceAndShape_24 (by decide) ?_
    exact ret (0) _ _ _ _ _ _ _ dX10_areFaceAndShape_25 hH (Rg_01 (Rg_w (Rg_c (x := 0) (a := (0)) (b := (0)) (by decide)) (by decide))) ⟨rfl, rfl, rfl, (Rg_w (Rg_c (x := 0) (a := (0)) (b := (0)) (by decide)) (by decide)), (by have c0 : Int32.toInt 0 = 0 := (by decide); have c9 : Int32.toInt 9 = 9 := (by decide); have c19 : Int32.toInt 19 = 19 := (by decide); exact Or.inr ⟨rfl, by omega⟩), (hT.symm.trans hv)⟩
  replace hv := fnP hv rfl
  have l2 := hq1.1
  have r3 : Rg x1 (0) (2147483647) := Rg_lle (Rg_any x1) l2 (Rg_c (x := 0) (a := (0)) (b := (0)) (by decide)) (by decide)
  have l4 := hq1.2
  have r5 : Rg x1 (0) (9) := Rg_ule r3 l4 (Rg_c (x := 9) (a := (9)) (b := (9)) (by decide)) (by decide)
  refine lv_if_eq (tgt := 24) hx hb dX10_areFaceAndShape_7 (by decide) (fun q6 => ?_) (fun q6 => ?_)
  · exact absurd q6 (by decide)
  refine lv_iload_n hx hb dX10_areFaceAndShape_10 rfl (lv_at hl 1 rfl) ?_
  refine lv_iconst (v := 0) hx hb dX10_areFaceAndShape_11 (by decide) ?_
  refine lv_bipush (v := 19) hx hb dX10_areFaceAndShape_12 (by decide) ?_
  refine ca_X10_82 hx hb hml hown hts hH (c_X10_isWithin ) hl.1 (by decide) (Nat.le_of_ble_eq_true rfl) ⟨Nat.zero_le _, Nat.zero_le _⟩ dX10_areFaceAndShape_14 (fun y7 I7 J7 R7 H locs hp hH => ?_)
  obtain ⟨eI7, eJ7, eR7, ry7, hp7, hf7⟩ := hp
  obtain rfl : I = I7 := eI7.symm
  obtain rfl : J = J7 := eJ7.symm
  obtain rfl : R = R7 := eR7.symm
  replace hv := fnS hv hf7.symm
  rcases hp7 with ⟨rfl, hq7⟩ | ⟨rfl, hq7⟩
  rotate_left
  · replace hv := fnN hv (by decide)
    refine lv_if_eq (tgt := 24) hx hb dX10_areFaceAndShape_17 (by decide) (fun q13 => ?_) (fun q13 => ?_)
    rotate_left
    · exact absurd rfl q13
    refine lv_iconst (v := 0) hx hb dX10_areFaceAndShape_24 (by decide) ?_
    exact ret (0) _ _ _ _ _ _ _ dX10_areFaceAndShape_25 hH (Rg_01 (Rg_w (Rg_c (x := 0) (a := (0)) (b := (0)) (by decide)) (by decide))) ⟨rfl, rfl, rfl, (Rg_w (Rg_c (x := 0) (a := (0)) (b := (0)) (by decide)) (by decide)), (by have c0 : Int32.toInt 0 = 0 := (by decide); have c9 : Int32.toInt 9 = 9 := (by decide); have c19 : Int32.toInt 19 = 19 := (by decide); exact Or.inr ⟨rfl, by omega⟩), (hT.symm.trans hv)⟩
  replace hv := fnP hv rfl
  have l8 := hq7.1
  have r9 : Rg x2 (0) (2147483647) := Rg_lle (Rg_any x2) l8 (Rg_c (x := 0) (a := (0)) (b := (0)) (by decide)) (by decide)
  have l10 := hq7.2
  have r11 : Rg x2 (0) (19) := Rg_ule r9 l10 (Rg_c (x := 19) (a := (19)) (b := (19)) (by decide)) (by decide)
  refine lv_if_eq (tgt := 24) hx hb dX10_areFaceAndShape_17 (by decide) (fun q12 => ?_) (fun q12 => ?_)
  · exact absurd q12 (by decide)
  refine lv_iconst (v := 1) hx hb dX10_areFaceAndShape_20 (by decide) ?_
  refine lv_goto (tgt := 25) hx hb dX10_areFaceAndShape_21 (by decide) ?_
  exact ret (1) _ _ _ _ _ _ _ dX10_areFaceAndShape_25 hH (Rg_01 (Rg_w (Rg_c (x := 1) (a := (1)) (b := (1)) (by decide)) (by decide))) ⟨rfl, rfl, rfl, (Rg_w (Rg_c (x := 1) (a := (1)) (b := (1)) (by decide)) (by decide)), (by have c0 : Int32.toInt 0 = 0 := (by decide); have c9 : Int32.toInt 9 = 9 := (by decide); have c19 : Int32.toInt 19 = 19 := (by decide); have d1 := r5; obtain ⟨d1a, d1b⟩ := d1; have d2 := r11; obtain ⟨d2a, d2b⟩ := d2; exact Or.inl ⟨rfl, by omega⟩), (hT.symm.trans hv)⟩
noncomputable def F_X10_isOf (x1 : Int32) (x2 : Int64) : Int32 :=
  (if Int32.toInt x1 = 0 then nm (lg_cmp x2 (-128 : Int64)) fun y3 => (if y3 < (0 : Int32) then (0 : Int32) else nm (lg_cmp x2 (127 : Int64)) fun y9 => (if (0 : Int32) < y9 then (0 : Int32) else (1 : Int32))) else (if Int32.toInt x1 = 1 then nm (lg_cmp x2 (-32768 : Int64)) fun y16 => (if y16 < (0 : Int32) then (0 : Int32) else nm (lg_cmp x2 (32767 : Int64)) fun y22 => (if (0 : Int32) < y22 then (0 : Int32) else (1 : Int32))) else (if Int32.toInt x1 = 2 then nm (lg_cmp x2 (-2147483648 : Int64)) fun y29 => (if y29 < (0 : Int32) then (0 : Int32) else nm (lg_cmp x2 (2147483647 : Int64)) fun y35 => (if (0 : Int32) < y35 then (0 : Int32) else (1 : Int32))) else (if Int32.toInt x1 = 3 then (1 : Int32) else (if Int32.toInt x1 = 4 then nm (lg_cmp x2 (0 : Int64)) fun y43 => (if y43 = (0 : Int32) then (1 : Int32) else nm (lg_cmp x2 (1 : Int64)) fun y48 => (if y48 = (0 : Int32) then (1 : Int32) else (0 : Int32))) else (if Int32.toInt x1 = 5 then (1 : Int32) else (if Int32.toInt x1 = 6 then nm (lg_cmp x2 (0 : Int64)) fun y55 => (if y55 < (0 : Int32) then (0 : Int32) else nm (lg_cmp x2 (127 : Int64)) fun y61 => (if (0 : Int32) < y61 then (0 : Int32) else (1 : Int32))) else default)))))))
set_option maxHeartbeats 4000000 in
set_option maxRecDepth 100000 in
theorem c_X10_isOf {l : Launch} {D : va_G} {cy : Nat → ClassId} {L : List Nat} {C : Nat → Nat} {b0 : Nat} {I : hI} {J : hJ} {R : hR} {x1 : Int32} {x2 : Int64} (h1 : Rg x1 (0) (6)) : CI l yX10_isOf cX10_isOf 3 .boolean 0 D cy L C b0 [.int x1, .long x2] (I, J, R) (fun r v => v.1 = I ∧ v.2.1 = J ∧ v.2.2 = R ∧ Rg r (0) (1) ∧ ((r = 1 ∧ isOfP x1.toInt x2.toInt) ∨ (r = 0 ∧ ¬ isOfP x1.toInt x2.toInt)) ∧ F_X10_isOf x1 x2 = r) := by
  refine CI.mkZ (plainFor_of_name (by decide)) (Nat.le_of_ble_eq_true rfl) ?_
  intro p e s m args below meth c ls Q hF ret hH hl
  obtain ⟨hx, hb, -, hml, hown, hts, -⟩ := hF
  have hl : lv_has ls 3 [(0, .int x1), (1, .long x2)] := hl
  have hH : Hp D cy L C b0 s s.heap I J R s.heap [] := hH
  obtain ⟨TT0, hT⟩ : ∃ TT0, TT0 = F_X10_isOf x1 x2 := ⟨_, rfl⟩
  have hv := hT
  unfold F_X10_isOf at hv
  refine lv_iload_n hx hb dX10_isOf_0 rfl (lv_at hl 0 rfl) ?_
  rcases (show x1.toInt = 0 ∨ x1.toInt = 1 ∨ x1.toInt = 2 ∨ x1.toInt = 3 ∨ x1.toInt = 4 ∨ x1.toInt = 5 ∨ x1.toInt = 6 by have z11 := h1.1; have z12 := h1.2; omega) with z1 | z1 | z1 | z1 | z1 | z1 | z1
  · have r2 : Rg x1 (0) (0) := ⟨by rw [z1]; decide, by rw [z1]; decide⟩
    refine lv_tableIn (tgt := 44) hx hb dX10_isOf_1 (by rw [z1]; decide) (by rw [z1]; decide) (by rw [z1]; rfl) (by decide) ?_
    replace hv := fnP hv z1
    refine lv_lload_n hx hb dX10_isOf_44 rfl (lv_at hl 1 rfl) ?_
    refine lv_ldc2 (v := (-128)) hx hb hown (hts _ kkl_X10_271) dX10_isOf_45 ?_
    refine W.lcmp hx hb dX10_isOf_48 ?_
    refine lv_topi (fun y3 ey3 => ?_)
    replace hv := fnS hv ey3
    refine lv_if_lt (tgt := 64) hx hb dX10_isOf_49 (by decide) (fun q4 => ?_) (fun q4 => ?_)
    · replace hv := fnP hv q4
      have l5 := lc_lt ey3 q4
      have r6 : Rg y3 (-2147483648) (-1) := Rg_ult (Rg_any y3) (Rg_lt q4) (Rg_c (x := 0) (a := (0)) (b := (0)) (by decide)) (by decide)
      refine lv_iconst (v := 0) hx hb dX10_isOf_64 (by decide) ?_
      exact ret (0) _ _ _ _ _ _ _ dX10_isOf_65 hH (Rg_01 (Rg_w (Rg_c (x := 0) (a := (0)) (b := (0)) (by decide)) (by decide))) ⟨rfl, rfl, rfl, (Rg_w (Rg_c (x := 0) (a := (0)) (b := (0)) (by decide)) (by decide)), (by obtain ⟨ga0, gb0⟩ := r2; have dl0 : Int64.toInt (-128) = -128 := (by decide); have dl1 : Int64.toInt (127) = 127 := (by decide); have dl2 : Int64.toInt (-32768) = -32768 := (by decide); have dl3 : Int64.toInt (32767) = 32767 := (by decide); have dl4 : Int64.toInt (-2147483648) = -2147483648 := (by decide); have dl5 : Int64.toInt (2147483647) = 2147483647 := (by decide); have dl6 : Int64.toInt (0) = 0 := (by decide); have dl7 : Int64.toInt (1) = 1 := (by decide); exact Or.inr ⟨rfl, by unfold isOfP; omega⟩), (hT.symm.trans hv)⟩
    replace hv := fnN hv q4
    have l7 := lc_nlt ey3 q4
    have r8 : Rg y3 (0) (2147483647) := Rg_lle (Rg_any y3) (Rg_nlt q4) (Rg_c (x := 0) (a := (0)) (b := (0)) (by decide)) (by decide)
    refine lv_lload_n hx hb dX10_isOf_52 rfl (lv_at hl 1 rfl) ?_
    refine lv_ldc2 (v := 127) hx hb hown (hts _ kkl_X10_273) dX10_isOf_53 ?_
    refine W.lcmp hx hb dX10_isOf_56 ?_
    refine lv_topi (fun y9 ey9 => ?_)
    replace hv := fnS hv ey9
    refine lv_if_gt (tgt := 64) hx hb dX10_isOf_57 (by decide) (fun q10 => ?_) (fun q10 => ?_)
    · replace hv := fnP hv q10
      have l11 := lc_gt ey9 q10
      have r12 : Rg y9 (1) (2147483647) := Rg_llt (Rg_any y9) (Rg_lt q10) (Rg_c (x := 0) (a := (0)) (b := (0)) (by decide)) (by decide)
      refine lv_iconst (v := 0) hx hb dX10_isOf_64 (by decide) ?_
      exact ret (0) _ _ _ _ _ _ _ dX10_isOf_65 hH (Rg_01 (Rg_w (Rg_c (x := 0) (a := (0)) (b := (0)) (by decide)) (by decide))) ⟨rfl, rfl, rfl, (Rg_w (Rg_c (x := 0) (a := (0)) (b := (0)) (by decide)) (by decide)), (by obtain ⟨ga0, gb0⟩ := r2; have dl0 : Int64.toInt (-128) = -128 := (by decide); have dl1 : Int64.toInt (127) = 127 := (by decide); have dl2 : Int64.toInt (-32768) = -32768 := (by decide); have dl3 : Int64.toInt (32767) = 32767 := (by decide); have dl4 : Int64.toInt (-2147483648) = -2147483648 := (by decide); have dl5 : Int64.toInt (2147483647) = 2147483647 := (by decide); have dl6 : Int64.toInt (0) = 0 := (by decide); have dl7 : Int64.toInt (1) = 1 := (by decide); exact Or.inr ⟨rfl, by unfold isOfP; omega⟩), (hT.symm.trans hv)⟩
    replace hv := fnN hv q10
    have l13 := lc_ngt ey9 q10
    have r14 : Rg y9 (-2147483648) (0) := Rg_ule (Rg_any y9) (Rg_nlt q10) (Rg_c (x := 0) (a := (0)) (b := (0)) (by decide)) (by decide)
    refine lv_iconst (v := 1) hx hb dX10_isOf_60 (by decide) ?_
    refine lv_goto (tgt := 65) hx hb dX10_isOf_61 (by decide) ?_
    exact ret (1) _ _ _ _ _ _ _ dX10_isOf_65 hH (Rg_01 (Rg_w (Rg_c (x := 1) (a := (1)) (b := (1)) (by decide)) (by decide))) ⟨rfl, rfl, rfl, (Rg_w (Rg_c (x := 1) (a := (1)) (b := (1)) (by decide)) (by decide)), (by obtain ⟨ga0, gb0⟩ := r2; have dl0 : Int64.toInt (-128) = -128 := (by decide); have dl1 : Int64.toInt (127) = 127 := (by decide); have dl2 : Int64.toInt (-32768) = -32768 := (by decide); have dl3 : Int64.toInt (32767) = 32767 := (by decide); have dl4 : Int64.toInt (-2147483648) = -2147483648 := (by decide); have dl5 : Int64.toInt (2147483647) = 2147483647 := (by decide); have dl6 : Int64.toInt (0) = 0 := (by decide); have dl7 : Int64.toInt (1) = 1 := (by decide); exact Or.inl ⟨rfl, by unfold isOfP; omega⟩), (hT.symm.trans hv)⟩
  · have r15 : Rg x1 (1) (1) := ⟨by rw [z1]; decide, by rw [z1]; decide⟩
    refine lv_tableIn (tgt := 66) hx hb dX10_isOf_1 (by rw [z1]; decide) (by rw [z1]; decide) (by rw [z1]; rfl) (by decide) ?_
    replace hv := fnN hv (by omega)
    replace hv := fnP hv z1
    refine lv_lload_n hx hb dX10_isOf_66 rfl (lv_at hl 1 rfl) ?_
    refine lv_ldc2 (v := (-32768)) hx hb hown (hts _ kkl_X10_275) dX10_isOf_67 ?_
    refine W.lcmp hx hb dX10_isOf_70 ?_
    refine lv_topi (fun y16 ey16 => ?_)
    replace hv := fnS hv ey16
    refine lv_if_lt (tgt := 86) hx hb dX10_isOf_71 (by decide) (fun q17 => ?_) (fun q17 => ?_)
    · replace hv := fnP hv q17
      have l18 := lc_lt ey16 q17
      have r19 : Rg y16 (-2147483648) (-1) := Rg_ult (Rg_any y16) (Rg_lt q17) (Rg_c (x := 0) (a := (0)) (b := (0)) (by decide)) (by decide)
      refine lv_iconst (v := 0) hx hb dX10_isOf_86 (by decide) ?_
      exact ret (0) _ _ _ _ _ _ _ dX10_isOf_87 hH (Rg_01 (Rg_w (Rg_c (x := 0) (a := (0)) (b := (0)) (by decide)) (by decide))) ⟨rfl, rfl, rfl, (Rg_w (Rg_c (x := 0) (a := (0)) (b := (0)) (by decide)) (by decide)), (by obtain ⟨ga0, gb0⟩ := r15; have dl0 : Int64.toInt (-128) = -128 := (by decide); have dl1 : Int64.toInt (127) = 127 := (by decide); have dl2 : Int64.toInt (-32768) = -32768 := (by decide); have dl3 : Int64.toInt (32767) = 32767 := (by decide); have dl4 : Int64.toInt (-2147483648) = -2147483648 := (by decide); have dl5 : Int64.toInt (2147483647) = 2147483647 := (by decide); have dl6 : Int64.toInt (0) = 0 := (by decide); have dl7 : Int64.toInt (1) = 1 := (by decide); exact Or.inr ⟨rfl, by unfold isOfP; omega⟩), (hT.symm.trans hv)⟩
    replace hv := fnN hv q17
    have l20 := lc_nlt ey16 q17
    have r21 : Rg y16 (0) (2147483647) := Rg_lle (Rg_any y16) (Rg_nlt q17) (Rg_c (x := 0) (a := (0)) (b := (0)) (by decide)) (by decide)
    refine lv_lload_n hx hb dX10_isOf_74 rfl (lv_at hl 1 rfl) ?_
    refine lv_ldc2 (v := 32767) hx hb hown (hts _ kkl_X10_277) dX10_isOf_75 ?_
    refine W.lcmp hx hb dX10_isOf_78 ?_
    refine lv_topi (fun y22 ey22 => ?_)
    replace hv := fnS hv ey22
    refine lv_if_gt (tgt := 86) hx hb dX10_isOf_79 (by decide) (fun q23 => ?_) (fun q23 => ?_)
    · replace hv := fnP hv q23
      have l24 := lc_gt ey22 q23
      have r25 : Rg y22 (1) (2147483647) := Rg_llt (Rg_any y22) (Rg_lt q23) (Rg_c (x := 0) (a := (0)) (b := (0)) (by decide)) (by decide)
      refine lv_iconst (v := 0) hx hb dX10_isOf_86 (by decide) ?_
      exact ret (0) _ _ _ _ _ _ _ dX10_isOf_87 hH (Rg_01 (Rg_w (Rg_c (x := 0) (a := (0)) (b := (0)) (by decide)) (by decide))) ⟨rfl, rfl, rfl, (Rg_w (Rg_c (x := 0) (a := (0)) (b := (0)) (by decide)) (by decide)), (by obtain ⟨ga0, gb0⟩ := r15; have dl0 : Int64.toInt (-128) = -128 := (by decide); have dl1 : Int64.toInt (127) = 127 := (by decide); have dl2 : Int64.toInt (-32768) = -32768 := (by decide); have dl3 : Int64.toInt (32767) = 32767 := (by decide); have dl4 : Int64.toInt (-2147483648) = -2147483648 := (by decide); have dl5 : Int64.toInt (2147483647) = 2147483647 := (by decide); have dl6 : Int64.toInt (0) = 0 := (by decide); have dl7 : Int64.toInt (1) = 1 := (by decide); exact Or.inr ⟨rfl, by unfold isOfP; omega⟩), (hT.symm.trans hv)⟩
    replace hv := fnN hv q23
    have l26 := lc_ngt ey22 q23
    have r27 : Rg y22 (-2147483648) (0) := Rg_ule (Rg_any y22) (Rg_nlt q23) (Rg_c (x := 0) (a := (0)) (b := (0)) (by decide)) (by decide)
    refine lv_iconst (v := 1) hx hb dX10_isOf_82 (by decide) ?_
    refine lv_goto (tgt := 87) hx hb dX10_isOf_83 (by decide) ?_
    exact ret (1) _ _ _ _ _ _ _ dX10_isOf_87 hH (Rg_01 (Rg_w (Rg_c (x := 1) (a := (1)) (b := (1)) (by decide)) (by decide))) ⟨rfl, rfl, rfl, (Rg_w (Rg_c (x := 1) (a := (1)) (b := (1)) (by decide)) (by decide)), (by obtain ⟨ga0, gb0⟩ := r15; have dl0 : Int64.toInt (-128) = -128 := (by decide); have dl1 : Int64.toInt (127) = 127 := (by decide); have dl2 : Int64.toInt (-32768) = -32768 := (by decide); have dl3 : Int64.toInt (32767) = 32767 := (by decide); have dl4 : Int64.toInt (-2147483648) = -2147483648 := (by decide); have dl5 : Int64.toInt (2147483647) = 2147483647 := (by decide); have dl6 : Int64.toInt (0) = 0 := (by decide); have dl7 : Int64.toInt (1) = 1 := (by decide); exact Or.inl ⟨rfl, by unfold isOfP; omega⟩), (hT.symm.trans hv)⟩
  · have r28 : Rg x1 (2) (2) := ⟨by rw [z1]; decide, by rw [z1]; decide⟩
    refine lv_tableIn (tgt := 88) hx hb dX10_isOf_1 (by rw [z1]; decide) (by rw [z1]; decide) (by rw [z1]; rfl) (by decide) ?_
    replace hv := fnN hv (by omega)
    replace hv := fnN hv (by omega)
    replace hv := fnP hv z1
    refine lv_lload_n hx hb dX10_isOf_88 rfl (lv_at hl 1 rfl) ?_
    refine lv_ldc2 (v := (-2147483648)) hx hb hown (hts _ kkl_X10_279) dX10_isOf_89 ?_
    refine W.lcmp hx hb dX10_isOf_92 ?_
    refine lv_topi (fun y29 ey29 => ?_)
    replace hv := fnS hv ey29
    refine lv_if_lt (tgt := 108) hx hb dX10_isOf_93 (by decide) (fun q30 => ?_) (fun q30 => ?_)
    · replace hv := fnP hv q30
      have l31 := lc_lt ey29 q30
      have r32 : Rg y29 (-2147483648) (-1) := Rg_ult (Rg_any y29) (Rg_lt q30) (Rg_c (x := 0) (a := (0)) (b := (0)) (by decide)) (by decide)
      refine lv_iconst (v := 0) hx hb dX10_isOf_108 (by decide) ?_
      exact ret (0) _ _ _ _ _ _ _ dX10_isOf_109 hH (Rg_01 (Rg_w (Rg_c (x := 0) (a := (0)) (b := (0)) (by decide)) (by decide))) ⟨rfl, rfl, rfl, (Rg_w (Rg_c (x := 0) (a := (0)) (b := (0)) (by decide)) (by decide)), (by obtain ⟨ga0, gb0⟩ := r28; have dl0 : Int64.toInt (-128) = -128 := (by decide); have dl1 : Int64.toInt (127) = 127 := (by decide); have dl2 : Int64.toInt (-32768) = -32768 := (by decide); have dl3 : Int64.toInt (32767) = 32767 := (by decide); have dl4 : Int64.toInt (-2147483648) = -2147483648 := (by decide); have dl5 : Int64.toInt (2147483647) = 2147483647 := (by decide); have dl6 : Int64.toInt (0) = 0 := (by decide); have dl7 : Int64.toInt (1) = 1 := (by decide); exact Or.inr ⟨rfl, by unfold isOfP; omega⟩), (hT.symm.trans hv)⟩
    replace hv := fnN hv q30
    have l33 := lc_nlt ey29 q30
    have r34 : Rg y29 (0) (2147483647) := Rg_lle (Rg_any y29) (Rg_nlt q30) (Rg_c (x := 0) (a := (0)) (b := (0)) (by decide)) (by decide)
    refine lv_lload_n hx hb dX10_isOf_96 rfl (lv_at hl 1 rfl) ?_
    refine lv_ldc2 (v := 2147483647) hx hb hown (hts _ kkl_X10_281) dX10_isOf_97 ?_
    refine W.lcmp hx hb dX10_isOf_100 ?_
    refine lv_topi (fun y35 ey35 => ?_)
    replace hv := fnS hv ey35
    refine lv_if_gt (tgt := 108) hx hb dX10_isOf_101 (by decide) (fun q36 => ?_) (fun q36 => ?_)
    · replace hv := fnP hv q36
      have l37 := lc_gt ey35 q36
      have r38 : Rg y35 (1) (2147483647) := Rg_llt (Rg_any y35) (Rg_lt q36) (Rg_c (x := 0) (a := (0)) (b := (0)) (by decide)) (by decide)
      refine lv_iconst (v := 0) hx hb dX10_isOf_108 (by decide) ?_
      exact ret (0) _ _ _ _ _ _ _ dX10_isOf_109 hH (Rg_01 (Rg_w (Rg_c (x := 0) (a := (0)) (b := (0)) (by decide)) (by decide))) ⟨rfl, rfl, rfl, (Rg_w (Rg_c (x := 0) (a := (0)) (b := (0)) (by decide)) (by decide)), (by obtain ⟨ga0, gb0⟩ := r28; have dl0 : Int64.toInt (-128) = -128 := (by decide); have dl1 : Int64.toInt (127) = 127 := (by decide); have dl2 : Int64.toInt (-32768) = -32768 := (by decide); have dl3 : Int64.toInt (32767) = 32767 := (by decide); have dl4 : Int64.toInt (-2147483648) = -2147483648 := (by decide); have dl5 : Int64.toInt (2147483647) = 2147483647 := (by decide); have dl6 : Int64.toInt (0) = 0 := (by decide); have dl7 : Int64.toInt (1) = 1 := (by decide); exact Or.inr ⟨rfl, by unfold isOfP; omega⟩), (hT.symm.trans hv)⟩
    replace hv := fnN hv q36
    have l39 := lc_ngt ey35 q36
    have r40 : Rg y35 (-2147483648) (0) := Rg_ule (Rg_any y35) (Rg_nlt q36) (Rg_c (x := 0) (a := (0)) (b := (0)) (by decide)) (by decide)
    refine lv_iconst (v := 1) hx hb dX10_isOf_104 (by decide) ?_
    refine lv_goto (tgt := 109) hx hb dX10_isOf_105 (by decide) ?_
    exact ret (1) _ _ _ _ _ _ _ dX10_isOf_109 hH (Rg_01 (Rg_w (Rg_c (x := 1) (a := (1)) (b := (1)) (by decide)) (by decide))) ⟨rfl, rfl, rfl, (Rg_w (Rg_c (x := 1) (a := (1)) (b := (1)) (by decide)) (by decide)), (by obtain ⟨ga0, gb0⟩ := r28; have dl0 : Int64.toInt (-128) = -128 := (by decide); have dl1 : Int64.toInt (127) = 127 := (by decide); have dl2 : Int64.toInt (-32768) = -32768 := (by decide); have dl3 : Int64.toInt (32767) = 32767 := (by decide); have dl4 : Int64.toInt (-2147483648) = -2147483648 := (by decide); have dl5 : Int64.toInt (2147483647) = 2147483647 := (by decide); have dl6 : Int64.toInt (0) = 0 := (by decide); have dl7 : Int64.toInt (1) = 1 := (by decide); exact Or.inl ⟨rfl, by unfold isOfP; omega⟩), (hT.symm.trans hv)⟩
  · have r41 : Rg x1 (3) (3) := ⟨by rw [z1]; decide, by rw [z1]; decide⟩
    refine lv_tableIn (tgt := 148) hx hb dX10_isOf_1 (by rw [z1]; decide) (by rw [z1]; decide) (by rw [z1]; rfl) (by decide) ?_
    replace hv := fnN hv (by omega)
    replace hv := fnN hv (by omega)
    replace hv := fnN hv (by omega)
    replace hv := fnP hv z1
    refine lv_iconst (v := 1) hx hb dX10_isOf_148 (by decide) ?_
    exact ret (1) _ _ _ _ _ _ _ dX10_isOf_149 hH (Rg_01 (Rg_w (Rg_c (x := 1) (a := (1)) (b := (1)) (by decide)) (by decide))) ⟨rfl, rfl, rfl, (Rg_w (Rg_c (x := 1) (a := (1)) (b := (1)) (by decide)) (by decide)), (by obtain ⟨ga0, gb0⟩ := r41; have dl0 : Int64.toInt (-128) = -128 := (by decide); have dl1 : Int64.toInt (127) = 127 := (by decide); have dl2 : Int64.toInt (-32768) = -32768 := (by decide); have dl3 : Int64.toInt (32767) = 32767 := (by decide); have dl4 : Int64.toInt (-2147483648) = -2147483648 := (by decide); have dl5 : Int64.toInt (2147483647) = 2147483647 := (by decide); have dl6 : Int64.toInt (0) = 0 := (by decide); have dl7 : Int64.toInt (1) = 1 := (by decide); exact Or.inl ⟨rfl, by unfold isOfP; omega⟩), (hT.symm.trans hv)⟩
  · have r42 : Rg x1 (4) (4) := ⟨by rw [z1]; decide, by rw [z1]; decide⟩
    refine lv_tableIn (tgt := 110) hx hb dX10_isOf_1 (by rw [z1]; decide) (by rw [z1]; decide) (by rw [z1]; rfl) (by decide) ?_
    replace hv := fnN hv (by omega)
    replace hv := fnN hv (by omega)
    replace hv := fnN hv (by omega)
    replace hv := fnN hv (by omega)
    replace hv := fnP hv z1
    refine lv_lload_n hx hb dX10_isOf_110 rfl (lv_at hl 1 rfl) ?_
    refine lv_lconst (v := 0) hx hb dX10_isOf_111 (by decide) ?_
    refine W.lcmp hx hb dX10_isOf_112 ?_
    refine lv_topi (fun y43 ey43 => ?_)
    replace hv := fnS hv ey43
    refine lv_if_eq (tgt := 122) hx hb dX10_isOf_113 (by decide) (fun q44 => ?_) (fun q44 => ?_)
    · replace hv := fnP hv q44
      have l45 := lc_eq ey43 q44
      have r46 : Rg y43 (0) (0) := Rg_both (Rg_any y43) (Rg_eqv q44 (Rg_c (x := 0) (a := (0)) (b := (0)) (by decide))) (by decide)
      refine lv_iconst (v := 1) hx hb dX10_isOf_122 (by decide) ?_
      refine lv_goto (tgt := 127) hx hb dX10_isOf_123 (by decide) ?_
      exact ret (1) _ _ _ _ _ _ _ dX10_isOf_127 hH (Rg_01 (Rg_w (Rg_c (x := 1) (a := (1)) (b := (1)) (by decide)) (by decide))) ⟨rfl, rfl, rfl, (Rg_w (Rg_c (x := 1) (a := (1)) (b := (1)) (by decide)) (by decide)), (by obtain ⟨ga0, gb0⟩ := r42; have dl0 : Int64.toInt (-128) = -128 := (by decide); have dl1 : Int64.toInt (127) = 127 := (by decide); have dl2 : Int64.toInt (-32768) = -32768 := (by decide); have dl3 : Int64.toInt (32767) = 32767 := (by decide); have dl4 : Int64.toInt (-2147483648) = -2147483648 := (by decide); have dl5 : Int64.toInt (2147483647) = 2147483647 := (by decide); have dl6 : Int64.toInt (0) = 0 := (by decide); have dl7 : Int64.toInt (1) = 1 := (by decide); exact Or.inl ⟨rfl, by unfold isOfP; omega⟩), (hT.symm.trans hv)⟩
    replace hv := fnN hv q44
    have l47 := lc_ne ey43 q44
    refine lv_lload_n hx hb dX10_isOf_116 rfl (lv_at hl 1 rfl) ?_
    refine lv_lconst (v := 1) hx hb dX10_isOf_117 (by decide) ?_
    refine W.lcmp hx hb dX10_isOf_118 ?_
    refine lv_topi (fun y48 ey48 => ?_)
    replace hv := fnS hv ey48
    refine lv_if_ne (tgt := 126) hx hb dX10_isOf_119 (by decide) (fun q49 => ?_) (fun q49 => ?_)
    · replace hv := fnN hv q49
      have l50 := lc_ne ey48 q49
      refine lv_iconst (v := 0) hx hb dX10_isOf_126 (by decide) ?_
      exact ret (0) _ _ _ _ _ _ _ dX10_isOf_127 hH (Rg_01 (Rg_w (Rg_c (x := 0) (a := (0)) (b := (0)) (by decide)) (by decide))) ⟨rfl, rfl, rfl, (Rg_w (Rg_c (x := 0) (a := (0)) (b := (0)) (by decide)) (by decide)), (by obtain ⟨ga0, gb0⟩ := r42; have dl0 : Int64.toInt (-128) = -128 := (by decide); have dl1 : Int64.toInt (127) = 127 := (by decide); have dl2 : Int64.toInt (-32768) = -32768 := (by decide); have dl3 : Int64.toInt (32767) = 32767 := (by decide); have dl4 : Int64.toInt (-2147483648) = -2147483648 := (by decide); have dl5 : Int64.toInt (2147483647) = 2147483647 := (by decide); have dl6 : Int64.toInt (0) = 0 := (by decide); have dl7 : Int64.toInt (1) = 1 := (by decide); exact Or.inr ⟨rfl, by unfold isOfP; omega⟩), (hT.symm.trans hv)⟩
    replace hv := fnP hv q49
    have l51 := lc_eq ey48 q49
    have r52 : Rg y48 (0) (0) := Rg_both (Rg_any y48) (Rg_eqv q49 (Rg_c (x := 0) (a := (0)) (b := (0)) (by decide))) (by decide)
    refine lv_iconst (v := 1) hx hb dX10_isOf_122 (by decide) ?_
    refine lv_goto (tgt := 127) hx hb dX10_isOf_123 (by decide) ?_
    exact ret (1) _ _ _ _ _ _ _ dX10_isOf_127 hH (Rg_01 (Rg_w (Rg_c (x := 1) (a := (1)) (b := (1)) (by decide)) (by decide))) ⟨rfl, rfl, rfl, (Rg_w (Rg_c (x := 1) (a := (1)) (b := (1)) (by decide)) (by decide)), (by obtain ⟨ga0, gb0⟩ := r42; have dl0 : Int64.toInt (-128) = -128 := (by decide); have dl1 : Int64.toInt (127) = 127 := (by decide); have dl2 : Int64.toInt (-32768) = -32768 := (by decide); have dl3 : Int64.toInt (32767) = 32767 := (by decide); have dl4 : Int64.toInt (-2147483648) = -2147483648 := (by decide); have dl5 : Int64.toInt (2147483647) = 2147483647 := (by decide); have dl6 : Int64.toInt (0) = 0 := (by decide); have dl7 : Int64.toInt (1) = 1 := (by decide); exact Or.inl ⟨rfl, by unfold isOfP; omega⟩), (hT.symm.trans hv)⟩
  · have r53 : Rg x1 (5) (5) := ⟨by rw [z1]; decide, by rw [z1]; decide⟩
    refine lv_tableIn (tgt := 148) hx hb dX10_isOf_1 (by rw [z1]; decide) (by rw [z1]; decide) (by rw [z1]; rfl) (by decide) ?_
    replace hv := fnN hv (by omega)
    replace hv := fnN hv (by omega)
    replace hv := fnN hv (by omega)
    replace hv := fnN hv (by omega)
    replace hv := fnN hv (by omega)
    replace hv := fnP hv z1
    refine lv_iconst (v := 1) hx hb dX10_isOf_148 (by decide) ?_
    exact ret (1) _ _ _ _ _ _ _ dX10_isOf_149 hH (Rg_01 (Rg_w (Rg_c (x := 1) (a := (1)) (b := (1)) (by decide)) (by decide))) ⟨rfl, rfl, rfl, (Rg_w (Rg_c (x := 1) (a := (1)) (b := (1)) (by decide)) (by decide)), (by obtain ⟨ga0, gb0⟩ := r53; have dl0 : Int64.toInt (-128) = -128 := (by decide); have dl1 : Int64.toInt (127) = 127 := (by decide); have dl2 : Int64.toInt (-32768) = -32768 := (by decide); have dl3 : Int64.toInt (32767) = 32767 := (by decide); have dl4 : Int64.toInt (-2147483648) = -2147483648 := (by decide); have dl5 : Int64.toInt (2147483647) = 2147483647 := (by decide); have dl6 : Int64.toInt (0) = 0 := (by decide); have dl7 : Int64.toInt (1) = 1 := (by decide); exact Or.inl ⟨rfl, by unfold isOfP; omega⟩), (hT.symm.trans hv)⟩
  · have r54 : Rg x1 (6) (6) := ⟨by rw [z1]; decide, by rw [z1]; decide⟩
    refine lv_tableIn (tgt := 128) hx hb dX10_isOf_1 (by rw [z1]; decide) (by rw [z1]; decide) (by rw [z1]; rfl) (by decide) ?_
    replace hv := fnN hv (by omega)
    replace hv := fnN hv (by omega)
    replace hv := fnN hv (by omega)
    replace hv := fnN hv (by omega)
    replace hv := fnN hv (by omega)
    replace hv := fnN hv (by omega)
    replace hv := fnP hv z1
    refine lv_lload_n hx hb dX10_isOf_128 rfl (lv_at hl 1 rfl) ?_
    refine lv_lconst (v := 0) hx hb dX10_isOf_129 (by decide) ?_
    refine W.lcmp hx hb dX10_isOf_130 ?_
    refine lv_topi (fun y55 ey55 => ?_)
    replace hv := fnS hv ey55
    refine lv_if_lt (tgt := 146) hx hb dX10_isOf_131 (by decide) (fun q56 => ?_) (fun q56 => ?_)
    · replace hv := fnP hv q56
      have l57 := lc_lt ey55 q56
      have r58 : Rg y55 (-2147483648) (-1) := Rg_ult (Rg_any y55) (Rg_lt q56) (Rg_c (x := 0) (a := (0)) (b := (0)) (by decide)) (by decide)
      refine lv_iconst (v := 0) hx hb dX10_isOf_146 (by decide) ?_
      exact ret (0) _ _ _ _ _ _ _ dX10_isOf_147 hH (Rg_01 (Rg_w (Rg_c (x := 0) (a := (0)) (b := (0)) (by decide)) (by decide))) ⟨rfl, rfl, rfl, (Rg_w (Rg_c (x := 0) (a := (0)) (b := (0)) (by decide)) (by decide)), (by obtain ⟨ga0, gb0⟩ := r54; have dl0 : Int64.toInt (-128) = -128 := (by decide); have dl1 : Int64.toInt (127) = 127 := (by decide); have dl2 : Int64.toInt (-32768) = -32768 := (by decide); have dl3 : Int64.toInt (32767) = 32767 := (by decide); have dl4 : Int64.toInt (-2147483648) = -2147483648 := (by decide); have dl5 : Int64.toInt (2147483647) = 2147483647 := (by decide); have dl6 : Int64.toInt (0) = 0 := (by decide); have dl7 : Int64.toInt (1) = 1 := (by decide); exact Or.inr ⟨rfl, by unfold isOfP; omega⟩), (hT.symm.trans hv)⟩
    replace hv := fnN hv q56
    have l59 := lc_nlt ey55 q56
    have r60 : Rg y55 (0) (2147483647) := Rg_lle (Rg_any y55) (Rg_nlt q56) (Rg_c (x := 0) (a := (0)) (b := (0)) (by decide)) (by decide)
    refine lv_lload_n hx hb dX10_isOf_134 rfl (lv_at hl 1 rfl) ?_
    refine lv_ldc2 (v := 127) hx hb hown (hts _ kkl_X10_273) dX10_isOf_135 ?_
    refine W.lcmp hx hb dX10_isOf_138 ?_
    refine lv_topi (fun y61 ey61 => ?_)
    replace hv := fnS hv ey61
    refine lv_if_gt (tgt := 146) hx hb dX10_isOf_139 (by decide) (fun q62 => ?_) (fun q62 => ?_)
    · replace hv := fnP hv q62
      have l63 := lc_gt ey61 q62
      have r64 : Rg y61 (1) (2147483647) := Rg_llt (Rg_any y61) (Rg_lt q62) (Rg_c (x := 0) (a := (0)) (b := (0)) (by decide)) (by decide)
      refine lv_iconst (v := 0) hx hb dX10_isOf_146 (by decide) ?_
      exact ret (0) _ _ _ _ _ _ _ dX10_isOf_147 hH (Rg_01 (Rg_w (Rg_c (x := 0) (a := (0)) (b := (0)) (by decide)) (by decide))) ⟨rfl, rfl, rfl, (Rg_w (Rg_c (x := 0) (a := (0)) (b := (0)) (by decide)) (by decide)), (by obtain ⟨ga0, gb0⟩ := r54; have dl0 : Int64.toInt (-128) = -128 := (by decide); have dl1 : Int64.toInt (127) = 127 := (by decide); have dl2 : Int64.toInt (-32768) = -32768 := (by decide); have dl3 : Int64.toInt (32767) = 32767 := (by decide); have dl4 : Int64.toInt (-2147483648) = -2147483648 := (by decide); have dl5 : Int64.toInt (2147483647) = 2147483647 := (by decide); have dl6 : Int64.toInt (0) = 0 := (by decide); have dl7 : Int64.toInt (1) = 1 := (by decide); exact Or.inr ⟨rfl, by unfold isOfP; omega⟩), (hT.symm.trans hv)⟩
    replace hv := fnN hv q62
    have l65 := lc_ngt ey61 q62
    have r66 : Rg y61 (-2147483648) (0) := Rg_ule (Rg_any y61) (Rg_nlt q62) (Rg_c (x := 0) (a := (0)) (b := (0)) (by decide)) (by decide)
    refine lv_iconst (v := 1) hx hb dX10_isOf_142 (by decide) ?_
    refine lv_goto (tgt := 147) hx hb dX10_isOf_143 (by decide) ?_
    exact ret (1) _ _ _ _ _ _ _ dX10_isOf_147 hH (Rg_01 (Rg_w (Rg_c (x := 1) (a := (1)) (b := (1)) (by decide)) (by decide))) ⟨rfl, rfl, rfl, (Rg_w (Rg_c (x := 1) (a := (1)) (b := (1)) (by decide)) (by decide)), (by obtain ⟨ga0, gb0⟩ := r54; have dl0 : Int64.toInt (-128) = -128 := (by decide); have dl1 : Int64.toInt (127) = 127 := (by decide); have dl2 : Int64.toInt (-32768) = -32768 := (by decide); have dl3 : Int64.toInt (32767) = 32767 := (by decide); have dl4 : Int64.toInt (-2147483648) = -2147483648 := (by decide); have dl5 : Int64.toInt (2147483647) = 2147483647 := (by decide); have dl6 : Int64.toInt (0) = 0 := (by decide); have dl7 : Int64.toInt (1) = 1 := (by decide); exact Or.inl ⟨rfl, by unfold isOfP; omega⟩), (hT.symm.trans hv)⟩
noncomputable def F_X10_staysIn64_51 (x1 : Int64) (x2 : Int32) (x3 : Int32) (w7 : Int64) (w3 : Int64) (y8 : Int32)  (xs0_51 : Int32) : Int32 :=
  xs0_51
noncomputable def F_X10_staysIn64_50 (x1 : Int64) (x2 : Int32) (x3 : Int32) (w7 : Int64) (w3 : Int64) (y8 : Int32)  : Int32 :=
  F_X10_staysIn64_51 x1 x2 x3 w7 w3 y8 (0 : Int32)
noncomputable def F_X10_staysIn64 (x1 : Int64) (x2 : Int32) (x3 : Int32) : Int32 :=
  nm (x1 &&& (1048575 : Int64)) fun w1 => nm (w1 * (x2.toInt64)) fun w2 => nm (w2 + (x3.toInt64)) fun w3 => nm (x1 >>> (Int32.toInt64 (20 : Int32) &&& 63)) fun w4 => nm (w4 * (x2.toInt64)) fun w5 => nm (w3 >>> (Int32.toInt64 (20 : Int32) &&& 63)) fun w6 => nm (w5 + w6) fun w7 => nm (lg_cmp w7 (-8796093022208 : Int64)) fun y8 => (if y8 < (0 : Int32) then F_X10_staysIn64_50 x1 x2 x3 w7 w3 y8 else nm (lg_cmp w7 (8796093022208 : Int64)) fun y14 => (if (0 : Int32) ≤ y14 then F_X10_staysIn64_50 x1 x2 x3 w7 w3 y8 else F_X10_staysIn64_51 x1 x2 x3 w7 w3 y8 (1 : Int32)))
set_option maxHeartbeats 4000000 in
set_option maxRecDepth 100000 in
theorem c_X10_staysIn64 {l : Launch} {D : va_G} {cy : Nat → ClassId} {L : List Nat} {C : Nat → Nat} {b0 : Nat} {I : hI} {J : hJ} {R : hR} {x1 : Int64} {x2 : Int32} {x3 : Int32}  : CI l yX10_staysIn64 cX10_staysIn64 8 .boolean 0 D cy L C b0 [.long x1, .int x2, .int x3] (I, J, R) (fun r v => v.1 = I ∧ v.2.1 = J ∧ v.2.2 = R ∧ Rg r (0) (1) ∧ F_X10_staysIn64 x1 x2 x3 = r) := by
  refine CI.mkZ (plainFor_of_name (by decide)) (Nat.le_of_ble_eq_true rfl) ?_
  intro p e s m args below meth c ls Q hF ret hH hl
  obtain ⟨hx, hb, -, hml, hown, hts, -⟩ := hF
  have hl : lv_has ls 8 [(0, .long x1), (2, .int x2), (3, .int x3)] := hl
  have hH : Hp D cy L C b0 s s.heap I J R s.heap [] := hH
  obtain ⟨TT0, hT⟩ : ∃ TT0, TT0 = F_X10_staysIn64 x1 x2 x3 := ⟨_, rfl⟩
  have hv := hT
  unfold F_X10_staysIn64 at hv
  refine lv_lload_n hx hb dX10_staysIn64_0 rfl (lv_at hl 0 rfl) ?_
  refine lv_ldc2 (v := 1048575) hx hb hown (hts _ kkl_X10_283) dX10_staysIn64_1 ?_
  refine lv_land hx hb dX10_staysIn64_4 ?_
  refine lv_topl (fun w1 ew1 => ?_)
  replace hv := fnS hv ew1
  refine lv_iload_n hx hb dX10_staysIn64_5 rfl (lv_at hl 1 rfl) ?_
  refine lv_i2l (v := x2.toInt64) hx hb dX10_staysIn64_6 rfl ?_
  refine lv_lmul hx hb dX10_staysIn64_7 ?_
  refine lv_topl (fun w2 ew2 => ?_)
  replace hv := fnS hv ew2
  refine lv_iload_n hx hb dX10_staysIn64_8 rfl (lv_at hl 2 rfl) ?_
  refine lv_i2l (v := x3.toInt64) hx hb dX10_staysIn64_9 rfl ?_
  refine lv_ladd hx hb dX10_staysIn64_10 ?_
  refine lv_topl (fun w3 ew3 => ?_)
  replace hv := fnS hv ew3
  refine lv_lstore (lv' := [(4, .long w3), (0, .long x1), (2, .int x2), (3, .int x3)]) hx hb dX10_staysIn64_11 hl (by decide) rfl (fun ls hl => ?_)
  refine lv_lload_n hx hb dX10_staysIn64_13 rfl (lv_at hl 1 rfl) ?_
  refine lv_bipush (v := 20) hx hb dX10_staysIn64_14 (by decide) ?_
  refine lv_lshr hx hb dX10_staysIn64_16 rfl ?_
  refine lv_topl (fun w4 ew4 => ?_)
  replace hv := fnS hv ew4
  refine lv_iload_n hx hb dX10_staysIn64_17 rfl (lv_at hl 2 rfl) ?_
  refine lv_i2l (v := x2.toInt64) hx hb dX10_staysIn64_18 rfl ?_
  refine lv_lmul hx hb dX10_staysIn64_19 ?_
  refine lv_topl (fun w5 ew5 => ?_)
  replace hv := fnS hv ew5
  refine lv_lload hx hb dX10_staysIn64_20 (lv_at hl 0 rfl) ?_
  refine lv_bipush (v := 20) hx hb dX10_staysIn64_22 (by decide) ?_
  refine lv_lshr hx hb dX10_staysIn64_24 rfl ?_
  refine lv_topl (fun w6 ew6 => ?_)
  replace hv := fnS hv ew6
  refine lv_ladd hx hb dX10_staysIn64_25 ?_
  refine lv_topl (fun w7 ew7 => ?_)
  replace hv := fnS hv ew7
  refine lv_lstore (lv' := [(6, .long w7), (4, .long w3), (0, .long x1), (2, .int x2), (3, .int x3)]) hx hb dX10_staysIn64_26 hl (by decide) rfl (fun ls hl => ?_)
  refine lv_lload hx hb dX10_staysIn64_28 (lv_at hl 0 rfl) ?_
  refine lv_ldc2 (v := (-8796093022208)) hx hb hown (hts _ kkl_X10_285) dX10_staysIn64_30 ?_
  refine W.lcmp hx hb dX10_staysIn64_33 ?_
  refine lv_topi (fun y8 ey8 => ?_)
  replace hv := fnS hv ey8
  have L_51 : ∀ (H : Heap) (locs : List Loc) (ls : Array Slot) (xs0_51 : Int32), Hp D cy L C b0 s s.heap I J R H locs → TT0 = F_X10_staysIn64_51 x1 x2 x3 w7 w3 y8 xs0_51 → Rg xs0_51 (0) (1) → lv_has ls 8 [] → W p l e (rmD 0) s m args below meth c H locs 0 0 Q (F0 m 51 ls [.int xs0_51]) := by
    intro H locs ls xs0_51 hH hv rs0_51 hl
    unfold F_X10_staysIn64_51 at hv
    exact ret (xs0_51) _ _ _ _ _ _ _ dX10_staysIn64_51 hH (Rg_01 (Rg_w rs0_51 (by decide))) ⟨rfl, rfl, rfl, rs0_51, (hT.symm.trans hv)⟩
  have L_50 : ∀ (H : Heap) (locs : List Loc) (ls : Array Slot), Hp D cy L C b0 s s.heap I J R H locs → TT0 = F_X10_staysIn64_50 x1 x2 x3 w7 w3 y8 → lv_has ls 8 [] → W p l e (rmD 0) s m args below meth c H locs 0 0 Q (F0 m 50 ls []) := by
    intro H locs ls hH hv hl
    unfold F_X10_staysIn64_50 at hv
    refine lv_iconst (v := 0) hx hb dX10_staysIn64_50 (by decide) ?_
    exact L_51 _ _ _ 0 hH hv (Rg_w (Rg_c (x := 0) (a := (0)) (b := (0)) (by decide)) (by decide)) (lv_sub hl [] rfl)
  refine lv_if_lt (tgt := 50) hx hb dX10_staysIn64_34 (by decide) (fun q9 => ?_) (fun q9 => ?_)
  · replace hv := fnP hv q9
    have l10 := lc_lt ey8 q9
    have r11 : Rg y8 (-2147483648) (-1) := Rg_ult (Rg_any y8) (Rg_lt q9) (Rg_c (x := 0) (a := (0)) (b := (0)) (by decide)) (by decide)
    exact L_50 _ _ _ hH hv (lv_sub hl [] rfl)
  replace hv := fnN hv q9
  have l12 := lc_nlt ey8 q9
  have r13 : Rg y8 (0) (2147483647) := Rg_lle (Rg_any y8) (Rg_nlt q9) (Rg_c (x := 0) (a := (0)) (b := (0)) (by decide)) (by decide)
  refine lv_lload hx hb dX10_staysIn64_37 (lv_at hl 0 rfl) ?_
  refine lv_ldc2 (v := 8796093022208) hx hb hown (hts _ kkl_X10_287) dX10_staysIn64_39 ?_
  refine W.lcmp hx hb dX10_staysIn64_42 ?_
  refine lv_topi (fun y14 ey14 => ?_)
  replace hv := fnS hv ey14
  refine lv_if_ge (tgt := 50) hx hb dX10_staysIn64_43 (by decide) (fun q15 => ?_) (fun q15 => ?_)
  · replace hv := fnP hv q15
    have l16 := lc_ge ey14 q15
    have r17 : Rg y14 (0) (2147483647) := Rg_lle (Rg_any y14) (Rg_le q15) (Rg_c (x := 0) (a := (0)) (b := (0)) (by decide)) (by decide)
    exact L_50 _ _ _ hH hv (lv_sub hl [] rfl)
  replace hv := fnN hv q15
  have l18 := lc_nge ey14 q15
  have r19 : Rg y14 (-2147483648) (-1) := Rg_ult (Rg_any y14) (Rg_nle q15) (Rg_c (x := 0) (a := (0)) (b := (0)) (by decide)) (by decide)
  refine lv_iconst (v := 1) hx hb dX10_staysIn64_46 (by decide) ?_
  refine lv_goto (tgt := 51) hx hb dX10_staysIn64_47 (by decide) ?_
  exact L_51 _ _ _ 1 hH hv (Rg_w (Rg_c (x := 1) (a := (1)) (b := (1)) (by decide)) (by decide)) (lv_sub hl [] rfl)
noncomputable def F_X10_sumStaysIn64_24 (x1 : Int64) (x2 : Int64) (w1 : Int64) (y5 : Int32)  (xs0_24 : Int32) : Int32 :=
  xs0_24
noncomputable def F_X10_sumStaysIn64 (x1 : Int64) (x2 : Int64) : Int32 :=
  nm (x1 + x2) fun w1 => nm (x1 ^^^ w1) fun w2 => nm (x2 ^^^ w1) fun w3 => nm (w2 &&& w3) fun w4 => nm (lg_cmp w4 (0 : Int64)) fun y5 => (if y5 < (0 : Int32) then F_X10_sumStaysIn64_24 x1 x2 w1 y5 (0 : Int32) else F_X10_sumStaysIn64_24 x1 x2 w1 y5 (1 : Int32))
set_option maxHeartbeats 4000000 in
set_option maxRecDepth 100000 in
theorem c_X10_sumStaysIn64 {l : Launch} {D : va_G} {cy : Nat → ClassId} {L : List Nat} {C : Nat → Nat} {b0 : Nat} {I : hI} {J : hJ} {R : hR} {x1 : Int64} {x2 : Int64}  : CI l yX10_sumStaysIn64 cX10_sumStaysIn64 6 .boolean 0 D cy L C b0 [.long x1, .long x2] (I, J, R) (fun r v => v.1 = I ∧ v.2.1 = J ∧ v.2.2 = R ∧ Rg r (0) (1) ∧ F_X10_sumStaysIn64 x1 x2 = r) := by
  refine CI.mkZ (plainFor_of_name (by decide)) (Nat.le_of_ble_eq_true rfl) ?_
  intro p e s m args below meth c ls Q hF ret hH hl
  obtain ⟨hx, hb, -, hml, hown, hts, -⟩ := hF
  have hl : lv_has ls 6 [(0, .long x1), (2, .long x2)] := hl
  have hH : Hp D cy L C b0 s s.heap I J R s.heap [] := hH
  obtain ⟨TT0, hT⟩ : ∃ TT0, TT0 = F_X10_sumStaysIn64 x1 x2 := ⟨_, rfl⟩
  have hv := hT
  unfold F_X10_sumStaysIn64 at hv
  refine lv_lload_n hx hb dX10_sumStaysIn64_0 rfl (lv_at hl 0 rfl) ?_
  refine lv_lload_n hx hb dX10_sumStaysIn64_1 rfl (lv_at hl 1 rfl) ?_
  refine lv_ladd hx hb dX10_sumStaysIn64_2 ?_
  refine lv_topl (fun w1 ew1 => ?_)
  replace hv := fnS hv ew1
  refine lv_lstore (lv' := [(4, .long w1), (0, .long x1), (2, .long x2)]) hx hb dX10_sumStaysIn64_3 hl (by decide) rfl (fun ls hl => ?_)
  refine lv_lload_n hx hb dX10_sumStaysIn64_5 rfl (lv_at hl 1 rfl) ?_
  refine lv_lload hx hb dX10_sumStaysIn64_6 (lv_at hl 0 rfl) ?_
  refine lv_lxor hx hb dX10_sumStaysIn64_8 ?_
  refine lv_topl (fun w2 ew2 => ?_)
  replace hv := fnS hv ew2
  refine lv_lload_n hx hb dX10_sumStaysIn64_9 rfl (lv_at hl 2 rfl) ?_
  refine lv_lload hx hb dX10_sumStaysIn64_10 (lv_at hl 0 rfl) ?_
  refine lv_lxor hx hb dX10_sumStaysIn64_12 ?_
  refine lv_topl (fun w3 ew3 => ?_)
  replace hv := fnS hv ew3
  refine lv_land hx hb dX10_sumStaysIn64_13 ?_
  refine lv_topl (fun w4 ew4 => ?_)
  replace hv := fnS hv ew4
  refine lv_lconst (v := 0) hx hb dX10_sumStaysIn64_14 (by decide) ?_
  refine W.lcmp hx hb dX10_sumStaysIn64_15 ?_
  refine lv_topi (fun y5 ey5 => ?_)
  replace hv := fnS hv ey5
  have L_24 : ∀ (H : Heap) (locs : List Loc) (ls : Array Slot) (xs0_24 : Int32), Hp D cy L C b0 s s.heap I J R H locs → TT0 = F_X10_sumStaysIn64_24 x1 x2 w1 y5 xs0_24 → Rg xs0_24 (0) (1) → lv_has ls 6 [] → W p l e (rmD 0) s m args below meth c H locs 0 0 Q (F0 m 24 ls [.int xs0_24]) := by
    intro H locs ls xs0_24 hH hv rs0_24 hl
    unfold F_X10_sumStaysIn64_24 at hv
    exact ret (xs0_24) _ _ _ _ _ _ _ dX10_sumStaysIn64_24 hH (Rg_01 (Rg_w rs0_24 (by decide))) ⟨rfl, rfl, rfl, rs0_24, (hT.symm.trans hv)⟩
  refine lv_if_lt (tgt := 23) hx hb dX10_sumStaysIn64_16 (by decide) (fun q6 => ?_) (fun q6 => ?_)
  · replace hv := fnP hv q6
    have l7 := lc_lt ey5 q6
    have r8 : Rg y5 (-2147483648) (-1) := Rg_ult (Rg_any y5) (Rg_lt q6) (Rg_c (x := 0) (a := (0)) (b := (0)) (by decide)) (by decide)
    refine lv_iconst (v := 0) hx hb dX10_sumStaysIn64_23 (by decide) ?_
    exact L_24 _ _ _ 0 hH hv (Rg_w (Rg_c (x := 0) (a := (0)) (b := (0)) (by decide)) (by decide)) (lv_sub hl [] rfl)
  replace hv := fnN hv q6
  have l9 := lc_nlt ey5 q6
  have r10 : Rg y5 (0) (2147483647) := Rg_lle (Rg_any y5) (Rg_nlt q6) (Rg_c (x := 0) (a := (0)) (b := (0)) (by decide)) (by decide)
  refine lv_iconst (v := 1) hx hb dX10_sumStaysIn64_19 (by decide) ?_
  refine lv_goto (tgt := 24) hx hb dX10_sumStaysIn64_20 (by decide) ?_
  exact L_24 _ _ _ 1 hH hv (Rg_w (Rg_c (x := 1) (a := (1)) (b := (1)) (by decide)) (by decide)) (lv_sub hl [] rfl)
noncomputable def B_X10_areSorts_21 (x1 : Int32) (k_21 : Int32 → Int32 → (Int32))  (x1_21 : Int32) (x2_21 : Int32) : Int32 :=
  (if (4 : Int32) ≤ x2_21 then (if x1_21 = (0 : Int32) then (1 : Int32) else (0 : Int32)) else nm (x1_21 &&& (7 : Int32)) fun y11 => (if y11 = (0 : Int32) then (if x1_21 = (0 : Int32) then (1 : Int32) else (0 : Int32)) else nm (x1_21 >>> ((3 : Int32) &&& 31)) fun y22 => nm (x2_21 + (1 : Int32)) fun y23 => k_21 y22 y23))
noncomputable def F_X10_areSorts_21 (x1 : Int32) : Nat → Int32 → Int32 → (Int32) := fun n => Nat.rec (motive := fun _ => Int32 → Int32 → (Int32)) (fun _ _ => default) (fun _ k => B_X10_areSorts_21 x1 k) n
theorem F_X10_areSorts_21_s {x1 : Int32} {n : Nat} {x1_21 : Int32} {x2_21 : Int32} : F_X10_areSorts_21 x1 (n + 1)  x1_21 x2_21 = B_X10_areSorts_21 x1 (F_X10_areSorts_21 x1 n)  x1_21 x2_21 := rfl
noncomputable def F_X10_areSorts (x1 : Int32) : Int32 :=
  (if x1 < (0 : Int32) then (0 : Int32) else nm (x1 &&& (7 : Int32)) fun y29 => (if y29 < (7 : Int32) then nm (x1 >>> ((3 : Int32) &&& 31)) fun y33 => F_X10_areSorts_21 x1 ((4 - (0 : Int32).toInt).toNat + 1) y33 (0 : Int32) else (0 : Int32)))
set_option maxHeartbeats 4000000 in
set_option maxRecDepth 100000 in
theorem c_X10_areSorts {l : Launch} {D : va_G} {cy : Nat → ClassId} {L : List Nat} {C : Nat → Nat} {b0 : Nat} {I : hI} {J : hJ} {R : hR} {x1 : Int32}  : CI l yX10_areSorts cX10_areSorts 3 .boolean 0 D cy L C b0 [.int x1] (I, J, R) (fun r v => v.1 = I ∧ v.2.1 = J ∧ v.2.2 = R ∧ Rg r (0) (1) ∧ ((r = 1 ∧ Dg x1.toInt) ∨ r = 0) ∧ F_X10_areSorts x1 = r) := by
  refine CI.mkZ (plainFor_of_name (by decide)) (Nat.le_of_ble_eq_true rfl) ?_
  intro p e s m args below meth c ls Q hF ret hH hl
  obtain ⟨hx, hb, -, hml, hown, hts, -⟩ := hF
  have hl : lv_has ls 3 [(0, .int x1)] := hl
  have hH : Hp D cy L C b0 s s.heap I J R s.heap [] := hH
  obtain ⟨TT0, hT⟩ : ∃ TT0, TT0 = F_X10_areSorts x1 := ⟨_, rfl⟩
  have hv := hT
  unfold F_X10_areSorts at hv
  refine lv_iload_n hx hb dX10_areSorts_0 rfl (lv_at hl 0 rfl) ?_
  have L_21 : ∀ (n_21 : Nat) (H : Heap) (locs : List Loc) (ls : Array Slot) (x1_21 : Int32) (x2_21 : Int32), (4 - x2_21.toInt).toNat < n_21 → Hp D cy L C b0 s s.heap I J R H locs → TT0 = F_X10_areSorts_21 x1 n_21 x1_21 x2_21 → Rg x1_21 (0) (268435455) → Rg x2_21 (0) (4) → (Int32.toInt x1_21 = (((Int32.toInt x1).toNat / 8 / 8 ^ (Int32.toInt x2_21).toNat : Nat) : Int)) → (∀ j, j < (Int32.toInt x2_21).toNat → (Int32.toInt x1).toNat / 8 / 8 ^ j % 8 ≠ 0) → (0 ≤ Int32.toInt x1 ∧ Int32.toInt x1 % 8 ≤ 6) → lv_has ls 3 [(1, .int x1_21), (2, .int x2_21)] → W p l e (rmD 0) s m args below meth c H locs 0 0 Q (F0 m 21 ls []) := by
    intro n_21
    induction n_21 with
    | zero => intro H locs ls x1_21 x2_21 h; exact absurd h (Nat.not_lt_zero _)
    | succ n_21 ih_21 =>
      intro H locs ls x1_21 x2_21 hn_21 hH hv r1_21 r2_21 g0_21 g1_21 g2_21 hl
      replace hv := hv.trans F_X10_areSorts_21_s
      unfold B_X10_areSorts_21 at hv
      refine lv_iload_n hx hb dX10_areSorts_21 rfl (lv_at hl 1 rfl) ?_
      refine lv_iconst (v := 4) hx hb dX10_areSorts_22 (by decide) ?_
      refine lv_icmp_ge (tgt := 43) hx hb dX10_areSorts_23 (by decide) (fun q1 => ?_) (fun q1 => ?_)
      · replace hv := fnP hv q1
        have l2 := Rg_le q1
        have r3 : Rg x2_21 (4) (4) := Rg_lle r2_21 (Rg_le q1) (Rg_c (x := 4) (a := (4)) (b := (4)) (by decide)) (by decide)
        refine lv_iload_n hx hb dX10_areSorts_43 rfl (lv_at hl 0 rfl) ?_
        refine lv_if_ne (tgt := 51) hx hb dX10_areSorts_44 (by decide) (fun q4 => ?_) (fun q4 => ?_)
        · replace hv := fnN hv q4
          have l5 := Rg_ne q4
          have r6 : Rg x1_21 (1) (268435455) := Rg_nelo r1_21 (Rg_ne q4) (Rg_c (x := 0) (a := (0)) (b := (0)) (by decide)) (by decide)
          refine lv_iconst (v := 0) hx hb dX10_areSorts_51 (by decide) ?_
          exact ret (0) _ _ _ _ _ _ _ dX10_areSorts_52 hH (Rg_01 (Rg_w (Rg_c (x := 0) (a := (0)) (b := (0)) (by decide)) (by decide))) ⟨rfl, rfl, rfl, (Rg_w (Rg_c (x := 0) (a := (0)) (b := (0)) (by decide)) (by decide)), (by exact Or.inr rfl), (hT.symm.trans hv)⟩
        replace hv := fnP hv q4
        have l7 := congrArg Int32.toInt q4
        have r8 : Rg x1_21 (0) (0) := Rg_both r1_21 (Rg_eqv q4 (Rg_c (x := 0) (a := (0)) (b := (0)) (by decide))) (by decide)
        refine lv_iconst (v := 1) hx hb dX10_areSorts_47 (by decide) ?_
        refine lv_goto (tgt := 52) hx hb dX10_areSorts_48 (by decide) ?_
        exact ret (1) _ _ _ _ _ _ _ dX10_areSorts_52 hH (Rg_01 (Rg_w (Rg_c (x := 1) (a := (1)) (b := (1)) (by decide)) (by decide))) ⟨rfl, rfl, rfl, (Rg_w (Rg_c (x := 1) (a := (1)) (b := (1)) (by decide)) (by decide)), (by refine Or.inl ⟨rfl, g2_21.1, g2_21.2, (Int32.toInt x2_21).toNat, by have a1 := r3.2; omega, g1_21, by have a2 := g0_21; have a3 := Rg_eq r8; omega⟩), (hT.symm.trans hv)⟩
      replace hv := fnN hv q1
      have l9 := Rg_nle q1
      have r10 : Rg x2_21 (0) (3) := Rg_ult r2_21 (Rg_nle q1) (Rg_c (x := 4) (a := (4)) (b := (4)) (by decide)) (by decide)
      refine lv_iload_n hx hb dX10_areSorts_26 rfl (lv_at hl 0 rfl) ?_
      refine lv_bipush (v := 7) hx hb dX10_areSorts_27 (by decide) ?_
      refine lv_iand hx hb dX10_areSorts_29 ?_
      refine lv_topi (fun y11 ey11 => ?_)
      replace hv := fnS hv ey11
      have ry11 : Rg y11 0 7 := by rw [ey11]; exact Rg_and7 _
      have ty11 : y11.toInt = x1_21.toInt % 8 := by rw [ey11]; exact and7_mod r1_21 (by decide)
      refine lv_if_eq (tgt := 43) hx hb dX10_areSorts_30 (by decide) (fun q12 => ?_) (fun q12 => ?_)
      · replace hv := fnP hv q12
        have l13 := congrArg Int32.toInt q12
        have r14 : Rg y11 (0) (0) := Rg_both ry11 (Rg_eqv q12 (Rg_c (x := 0) (a := (0)) (b := (0)) (by decide))) (by decide)
        refine lv_iload_n hx hb dX10_areSorts_43 rfl (lv_at hl 0 rfl) ?_
        refine lv_if_ne (tgt := 51) hx hb dX10_areSorts_44 (by decide) (fun q15 => ?_) (fun q15 => ?_)
        · replace hv := fnN hv q15
          have l16 := Rg_ne q15
          have r17 : Rg x1_21 (1) (268435455) := Rg_nelo r1_21 (Rg_ne q15) (Rg_c (x := 0) (a := (0)) (b := (0)) (by decide)) (by decide)
          refine lv_iconst (v := 0) hx hb dX10_areSorts_51 (by decide) ?_
          exact ret (0) _ _ _ _ _ _ _ dX10_areSorts_52 hH (Rg_01 (Rg_w (Rg_c (x := 0) (a := (0)) (b := (0)) (by decide)) (by decide))) ⟨rfl, rfl, rfl, (Rg_w (Rg_c (x := 0) (a := (0)) (b := (0)) (by decide)) (by decide)), (by exact Or.inr rfl), (hT.symm.trans hv)⟩
        replace hv := fnP hv q15
        have l18 := congrArg Int32.toInt q15
        have r19 : Rg x1_21 (0) (0) := Rg_both r1_21 (Rg_eqv q15 (Rg_c (x := 0) (a := (0)) (b := (0)) (by decide))) (by decide)
        refine lv_iconst (v := 1) hx hb dX10_areSorts_47 (by decide) ?_
        refine lv_goto (tgt := 52) hx hb dX10_areSorts_48 (by decide) ?_
        exact ret (1) _ _ _ _ _ _ _ dX10_areSorts_52 hH (Rg_01 (Rg_w (Rg_c (x := 1) (a := (1)) (b := (1)) (by decide)) (by decide))) ⟨rfl, rfl, rfl, (Rg_w (Rg_c (x := 1) (a := (1)) (b := (1)) (by decide)) (by decide)), (by refine Or.inl ⟨rfl, g2_21.1, g2_21.2, (Int32.toInt x2_21).toNat, by have a1 := r10.2; omega, g1_21, by have a2 := g0_21; have a3 := Rg_eq r19; omega⟩), (hT.symm.trans hv)⟩
      replace hv := fnN hv q12
      have l20 := Rg_ne q12
      have r21 : Rg y11 (1) (7) := Rg_nelo ry11 (Rg_ne q12) (Rg_c (x := 0) (a := (0)) (b := (0)) (by decide)) (by decide)
      refine lv_iload_n hx hb dX10_areSorts_33 rfl (lv_at hl 0 rfl) ?_
      refine lv_iconst (v := 3) hx hb dX10_areSorts_34 (by decide) ?_
      refine lv_ishr hx hb dX10_areSorts_35 ?_
      refine lv_topi (fun y22 ey22 => ?_)
      replace hv := fnS hv ey22
      obtain ⟨ty22, ry22⟩ := Rg_shr3 (a' := (0)) (b' := (33554431)) r1_21 (by decide)
      rw [← ey22] at ty22 ry22
      refine lv_istore_n (lv' := [(1, .int y22), (2, .int x2_21)]) hx hb dX10_areSorts_36 rfl hl (by decide) rfl (fun ls hl => ?_)
      obtain ⟨y23, ey23⟩ : ∃ y : Int32, y = x2_21 + 1 := ⟨_, rfl⟩
      replace hv := fnS hv ey23
      obtain ⟨ty23, ry23⟩ := Rg_addx (a' := (1)) (b' := (4)) (rfl : x2_21.toInt = _) (by decide : Int32.toInt 1 = 1) r10 (Rg_c (x := 1) (a := (1)) (b := (1)) (by decide)) (by decide)
      rw [← ey23] at ty23 ry23
      refine lv_iinc (v := y23) (lv' := [(2, .int y23), (1, .int y22)]) hx hb dX10_areSorts_37 hl (k := 1) rfl (by rw [ey23]; rfl) (by decide) rfl (fun ls hl => ?_)
      refine lv_goto (tgt := 21) hx hb dX10_areSorts_40 (by decide) ?_
      exact ih_21 _ _ _ y22 y23 (lp_up hn_21 ty23 (Rg_ltc r10 (by decide))) hH hv (Rg_w ry22 (by decide)) (Rg_w ry23 (by decide)) (by rw [show (Int32.toInt y23).toNat = (Int32.toInt x2_21).toNat + 1 by rw [ty23]; have a1 := r10.1; omega]; exact dg_step g0_21 ty22) (by intro j hj; rw [show (Int32.toInt y23).toNat = (Int32.toInt x2_21).toNat + 1 by rw [ty23]; have a1 := r10.1; omega] at hj; rcases Nat.lt_or_eq_of_le (Nat.le_of_lt_succ hj) with h | h; exact g1_21 j h; subst h; have a1 := (Rg_w (a' := 1) (b' := 7) r21 (by decide)).1; have a2 := ty11; have a3 := g0_21; omega) (by exact g2_21) (lv_sub hl [1, 0] rfl)
  refine lv_if_lt (tgt := 13) hx hb dX10_areSorts_1 (by decide) (fun q24 => ?_) (fun q24 => ?_)
  · replace hv := fnP hv q24
    have l25 := Rg_lt q24
    have r26 : Rg x1 (-2147483648) (-1) := Rg_ult (Rg_any x1) (Rg_lt q24) (Rg_c (x := 0) (a := (0)) (b := (0)) (by decide)) (by decide)
    refine lv_iconst (v := 0) hx hb dX10_areSorts_13 (by decide) ?_
    exact ret (0) _ _ _ _ _ _ _ dX10_areSorts_14 hH (Rg_01 (Rg_w (Rg_c (x := 0) (a := (0)) (b := (0)) (by decide)) (by decide))) ⟨rfl, rfl, rfl, (Rg_w (Rg_c (x := 0) (a := (0)) (b := (0)) (by decide)) (by decide)), (by exact Or.inr rfl), (hT.symm.trans hv)⟩
  replace hv := fnN hv q24
  have l27 := Rg_nlt q24
  have r28 : Rg x1 (0) (2147483647) := Rg_lle (Rg_any x1) (Rg_nlt q24) (Rg_c (x := 0) (a := (0)) (b := (0)) (by decide)) (by decide)
  refine lv_iload_n hx hb dX10_areSorts_4 rfl (lv_at hl 0 rfl) ?_
  refine lv_bipush (v := 7) hx hb dX10_areSorts_5 (by decide) ?_
  refine lv_iand hx hb dX10_areSorts_7 ?_
  refine lv_topi (fun y29 ey29 => ?_)
  replace hv := fnS hv ey29
  have ry29 : Rg y29 0 7 := by rw [ey29]; exact Rg_and7 _
  have ty29 : y29.toInt = x1.toInt % 8 := by rw [ey29]; exact and7_mod r28 (by decide)
  refine lv_bipush (v := 7) hx hb dX10_areSorts_8 (by decide) ?_
  refine lv_icmp_lt (tgt := 15) hx hb dX10_areSorts_10 (by decide) (fun q30 => ?_) (fun q30 => ?_)
  rotate_left
  · replace hv := fnN hv q30
    have l34 := Rg_nlt q30
    have r35 : Rg y29 (7) (7) := Rg_lle ry29 (Rg_nlt q30) (Rg_c (x := 7) (a := (7)) (b := (7)) (by decide)) (by decide)
    refine lv_iconst (v := 0) hx hb dX10_areSorts_13 (by decide) ?_
    exact ret (0) _ _ _ _ _ _ _ dX10_areSorts_14 hH (Rg_01 (Rg_w (Rg_c (x := 0) (a := (0)) (b := (0)) (by decide)) (by decide))) ⟨rfl, rfl, rfl, (Rg_w (Rg_c (x := 0) (a := (0)) (b := (0)) (by decide)) (by decide)), (by exact Or.inr rfl), (hT.symm.trans hv)⟩
  replace hv := fnP hv q30
  have l31 := Rg_lt q30
  have r32 : Rg y29 (0) (6) := Rg_ult ry29 (Rg_lt q30) (Rg_c (x := 7) (a := (7)) (b := (7)) (by decide)) (by decide)
  refine lv_iload_n hx hb dX10_areSorts_15 rfl (lv_at hl 0 rfl) ?_
  refine lv_iconst (v := 3) hx hb dX10_areSorts_16 (by decide) ?_
  refine lv_ishr hx hb dX10_areSorts_17 ?_
  refine lv_topi (fun y33 ey33 => ?_)
  replace hv := fnS hv ey33
  obtain ⟨ty33, ry33⟩ := Rg_shr3 (a' := (0)) (b' := (268435455)) r28 (by decide)
  rw [← ey33] at ty33 ry33
  refine lv_istore_n (lv' := [(1, .int y33), (0, .int x1)]) hx hb dX10_areSorts_18 rfl hl (by decide) rfl (fun ls hl => ?_)
  refine lv_iconst (v := 0) hx hb dX10_areSorts_19 (by decide) ?_
  refine lv_istore_n (lv' := [(2, .int 0), (1, .int y33), (0, .int x1)]) hx hb dX10_areSorts_20 rfl hl (by decide) rfl (fun ls hl => ?_)
  exact L_21 ((4 - (0 : Int32).toInt).toNat + 1) _ _ _ y33 0 (Nat.lt_succ_self _) hH hv ry33 (Rg_w (Rg_c (x := 0) (a := (0)) (b := (0)) (by decide)) (by decide)) (by rw [show (Int32.toInt 0).toNat = 0 by decide, Nat.pow_zero, Nat.div_one, ty33]; have a1 := r28.1; omega) (by intro j hj; rw [show (Int32.toInt 0).toNat = 0 by decide] at hj; omega) (by refine ⟨?_, ?_⟩; exact r28.1; rw [← ty29]; exact r32.2) (lv_sub hl [1, 0] rfl)
