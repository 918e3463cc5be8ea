set_option maxHeartbeats 4000000 in
set_option maxRecDepth 100000 in
theorem c_X10_init {l : Launch} {D : va_G} {cy : Nat → ClassId} {L0 : List Nat} {C0 : Nat → Nat} {b0 : Nat} {I0 : hI} {J0 : hJ} {R0 : hR} {a0 : Nat} (kk : KK L0 C0 I0 R0 [26]) (ma0 : a0 ∈ L0) (ka0 : C0 a0 = 26) (ria0 : I0 a0 = il []) (rra0 : R0 a0 = rl []) : CA l yX10_init cX10_init 2 4 435 2770 D cy L0 C0 b0 [.ref a0] (I0, J0, R0) (fun q => KK q.1 q.2.1 q.2.2.1 q.2.2.2.2 [0, 1, 2, 3, 4, 5, 6, 7, 8, 9, 10, 16, 17, 18, 19, 20, 21, 22, 23, 24, 25, 26, 32, 33, 34, 35, 36, 37, 38, 39, 40, 41, 42, 43, 44, 45, 46, 47, 48, 49, 50, 51, 52, 53, 54, 55, 56, 57, 58, 59, 60] ∧ Old L0 C0 (I0, J0, R0) a0 q.1 q.2.1 q.2.2.1 q.2.2.2.1 q.2.2.2.2 ∧ q.2.1 a0 = 10 ∧ (∃ z, q.2.2.2.2 a0 6 = some z ∧ q.2.2.1 z 2 = 0)) := by
  refine CA.mk (plainFor_of_name (by decide)) (Nat.le_of_ble_eq_true rfl) ?_
  intro p e s m args below meth c ls Q hF hin ret hH hl
  obtain ⟨hx, hb, -, hml, hown, hts, -⟩ := hF
  have hl : lv_has ls 2 [(0, .ref a0)] := hl
  have hH : Hp D cy L0 C0 b0 s s.heap I0 J0 R0 s.heap [] := hH
  have old : Old L0 C0 (I0, J0, R0) a0 L0 C0 I0 J0 R0 := Old.rf
  have hS0 := kk.2.2.2.1
  refine lv_aload_n hx hb dX10_init_0 rfl (lv_at hl 0 rfl) ?_
  refine W.objInit hx hb hown (hts _ km_X10_3) (hts _ ki_objectInit) (hts _ kc_objectInit) rfl (by rw [hml]; exact hl.1) rfl dX10_init_1 (Nat.le_of_ble_eq_true rfl) (Nat.le_of_ble_eq_true rfl) ?_
  refine W.eq (g2 := F0 m 4 ls []) rfl ?_
  refine lv_aload_n hx hb dX10_init_4 rfl (lv_at hl 0 rfl) ?_
  refine hNew (ci := 6) (N := 12) hx hb hts hown hH inX6 tyX6_ok rfl (by decide) rfl df_6 kcl_X10_9 kinst_X6 kini_X6 (by decide) (by decide) dX10_init_5 (fun q1 L1 C1 I1 J1 R1 H g1 eI1 eJ1 eR1 hH => ?_)
  have nq1 : q1 ∉ L0 := fun h => g1.2.2 (old q1 h).1
  have rra0 : R1 a0 = rl [] := by rw [eR1, va_up_ne _ _ (g1.ne ma0)]; exact rra0
  have ria0 : I1 a0 = il [] := by rw [eI1, va_up_ne _ _ (g1.ne ma0)]; exact ria0
  have ka0 := g1.role ma0 ka0
  have ma0 := g1.mem ma0
  have mq1 := g1.new
  have kq1 := g1.at
  have rrq1 : R1 q1 = rl [] := by rw [eR1, va_up_self]; rfl
  have riq1 : I1 q1 = il [] := by rw [eI1, va_up_self]; rfl
  have kk := kk.new g1 eI1 eR1 zz_22 zr_22 (Or.inl rfl) (by decide)
  have old := old.new g1 eI1 eJ1 eR1
  refine lv_dup hx hb dX10_init_8 rfl ?_
  refine afA (va_runI (As := []) (rest := [.ref q1, .ref a0]) ⟨hx, hb, hml, hown, hts⟩ (c_X6_init kk mq1 kq1 riq1 rrq1) ⟨callB_of 0 hts (wG_code kc_yX6_init) rfl rfl rfl (hts _ kini_X6) (hts _ km_X10_11) ⟨by decide, by decide, by decide +kernel⟩ ⟨by decide, by decide⟩, rfl, hts _ ki_yX6_init⟩ (preS hH) rfl rfl hl.1 rfl (lv_room (Nat.le_of_ble_eq_true rfl)) dX10_init_9 ⟨by decide, by decide⟩) hH (fun L2 C2 I2 J2 R2 H locs hp hH => ?_)
  obtain ⟨kk, od2, kq2⟩ := hp
  have ne2 : a0 ≠ q1 := ne_role ka0 kq1 (by decide)
  have rra0 : R2 a0 = rl [] := ((od2 a0 ma0).2 ne2).2.2.2.trans rra0
  have ria0 : I2 a0 = il [] := ((od2 a0 ma0).2 ne2).2.1.trans ria0
  have ka0 : C2 a0 = 26 := ((od2 a0 ma0).2 ne2).1.trans ka0
  have ma0 := (od2 a0 ma0).1
  have kq1 : C2 q1 = 6 := kq2
  have mq1 := (od2 q1 mq1).1
  have old := old.ctor od2 nq1
  refine pf_10_0 hx hb hts hown hH hin rfl ma0 ka0 rfl kf_X10_12 dX10_init_12 (fun R3 H locs eR3 hH => ?_)
  have rra0 : R3 a0 = rl [(0, q1)] := by rw [eR3]; exact rl_put rra0
  have kk : KK L2 C2 I2 R3 [6, 22, 26, 32, 33, 34, 35, 36, 37, 38, 39] := by rw [eR3]; exact kk.stR ka0 zr_26
  have old : Old L0 C0 (I0, J0, R0) a0 L2 C2 I2 J2 R3 := by rw [eR3]; exact old.stR (Or.inl rfl)
  refine lv_aload_n hx hb dX10_init_15 rfl (lv_at hl 0 rfl) ?_
  refine hNew (ci := 0) (N := 2) hx hb hts hown hH inX0 tyX0_ok rfl (by decide) rfl df_0 kcl_X10_16 kinst_X0 kini_X0 (by decide) (by decide) dX10_init_16 (fun q4 L4 C4 I4 J4 R4 H g4 eI4 eJ4 eR4 hH => ?_)
  have nq4 : q4 ∉ L0 := fun h => g4.2.2 (old q4 h).1
  have rra0 : R4 a0 = rl [(0, q1)] := by rw [eR4, va_up_ne _ _ (g4.ne ma0)]; exact rra0
  have ria0 : I4 a0 = il [] := by rw [eI4, va_up_ne _ _ (g4.ne ma0)]; exact ria0
  have ka0 := g4.role ma0 ka0
  have ma0 := g4.mem ma0
  have kq1 := g4.role mq1 kq1
  have mq1 := g4.mem mq1
  have mq4 := g4.new
  have kq4 := g4.at
  have rrq4 : R4 q4 = rl [] := by rw [eR4, va_up_self]; rfl
  have riq4 : I4 q4 = il [] := by rw [eI4, va_up_self]; rfl
  have kk := kk.new g4 eI4 eR4 zz_16 zr_16 (Or.inl rfl) (by decide)
  have old := old.new g4 eI4 eJ4 eR4
  refine lv_dup hx hb dX10_init_19 rfl ?_
  refine afA (va_runIN (As := []) (rest := [.ref q4, .ref a0]) ⟨hx, hb, hml, hown, hts⟩ (c_X0_init kk mq4 kq4 riq4 rrq4) ⟨va_cnB 0 hts (wG_code kc_yX0_init) rfl rfl rfl (hH.2.2.2.2.2.1 _ kn_X10_18) (hts _ kini_X0) ⟨by decide, by decide, by decide +kernel⟩ ⟨by decide, by decide⟩, rfl, hts _ ki_yX0_init⟩ (preS hH) rfl rfl hl.1 rfl (lv_room (Nat.le_of_ble_eq_true rfl)) dX10_init_20 ⟨by decide, by decide⟩) hH (fun L5 C5 I5 J5 R5 H locs hp hH => ?_)
  obtain ⟨kk, od5, kq5⟩ := hp
  have ne5 : a0 ≠ q4 := ne_role ka0 kq4 (by decide)
  have rra0 : R5 a0 = rl [(0, q1)] := ((od5 a0 ma0).2 ne5).2.2.2.trans rra0
  have ria0 : I5 a0 = il [] := ((od5 a0 ma0).2 ne5).2.1.trans ria0
  have ka0 : C5 a0 = 26 := ((od5 a0 ma0).2 ne5).1.trans ka0
  have ma0 := (od5 a0 ma0).1
  have ne5 : q1 ≠ q4 := ne_role kq1 kq4 (by decide)
  have kq1 : C5 q1 = 6 := ((od5 q1 mq1).2 ne5).1.trans kq1
  have mq1 := (od5 q1 mq1).1
  have kq4 : C5 q4 = 0 := kq5
  have mq4 := (od5 q4 mq4).1
  have old := old.ctor od5 nq4
  refine pf_10_1 hx hb hts hown hH hin rfl ma0 ka0 rfl kf_X10_19 dX10_init_23 (fun R6 H locs eR6 hH => ?_)
  have rra0 : R6 a0 = rl [(1, q4), (0, q1)] := by rw [eR6]; exact rl_put rra0
  have kk : KK L5 C5 I5 R6 [0, 6, 16, 22, 26, 32, 33, 34, 35, 36, 37, 38, 39, 40] := by rw [eR6]; exact kk.stR ka0 zr_26
  have old : Old L0 C0 (I0, J0, R0) a0 L5 C5 I5 J5 R6 := by rw [eR6]; exact old.stR (Or.inl rfl)
  refine lv_aload_n hx hb dX10_init_26 rfl (lv_at hl 0 rfl) ?_
  refine hNew (ci := 2) (N := 2) hx hb hts hown hH inX2 tyX2_ok rfl (by decide) rfl df_2 kcl_X10_23 kinst_X2 kini_X2 (by decide) (by decide) dX10_init_27 (fun q7 L7 C7 I7 J7 R7 H g7 eI7 eJ7 eR7 hH => ?_)
  have nq7 : q7 ∉ L0 := fun h => g7.2.2 (old q7 h).1
  have rra0 : R7 a0 = rl [(1, q4), (0, q1)] := by rw [eR7, va_up_ne _ _ (g7.ne ma0)]; exact rra0
  have ria0 : I7 a0 = il [] := by rw [eI7, va_up_ne _ _ (g7.ne ma0)]; exact ria0
  have ka0 := g7.role ma0 ka0
  have ma0 := g7.mem ma0
  have kq1 := g7.role mq1 kq1
  have mq1 := g7.mem mq1
  have kq4 := g7.role mq4 kq4
  have mq4 := g7.mem mq4
  have mq7 := g7.new
  have kq7 := g7.at
  have rrq7 : R7 q7 = rl [] := by rw [eR7, va_up_self]; rfl
  have riq7 : I7 q7 = il [] := by rw [eI7, va_up_self]; rfl
  have kk := kk.new g7 eI7 eR7 zz_18 zr_18 (Or.inl rfl) (by decide)
  have old := old.new g7 eI7 eJ7 eR7
  refine lv_dup hx hb dX10_init_30 rfl ?_
  refine afA (va_runIN (As := []) (rest := [.ref q7, .ref a0]) ⟨hx, hb, hml, hown, hts⟩ (c_X2_init kk mq7 kq7 riq7 rrq7) ⟨va_cnB 0 hts (wG_code kc_yX2_init) rfl rfl rfl (hH.2.2.2.2.2.1 _ kn_X10_25) (hts _ kini_X2) ⟨by decide, by decide, by decide +kernel⟩ ⟨by decide, by decide⟩, rfl, hts _ ki_yX2_init⟩ (preS hH) rfl rfl hl.1 rfl (lv_room (Nat.le_of_ble_eq_true rfl)) dX10_init_31 ⟨by decide, by decide⟩) hH (fun L8 C8 I8 J8 R8 H locs hp hH => ?_)
  obtain ⟨kk, od8, kq8⟩ := hp
  have ne8 : a0 ≠ q7 := ne_role ka0 kq7 (by decide)
  have rra0 : R8 a0 = rl [(1, q4), (0, q1)] := ((od8 a0 ma0).2 ne8).2.2.2.trans rra0
  have ria0 : I8 a0 = il [] := ((od8 a0 ma0).2 ne8).2.1.trans ria0
  have ka0 : C8 a0 = 26 := ((od8 a0 ma0).2 ne8).1.trans ka0
  have ma0 := (od8 a0 ma0).1
  have ne8 : q1 ≠ q7 := ne_role kq1 kq7 (by decide)
  have kq1 : C8 q1 = 6 := ((od8 q1 mq1).2 ne8).1.trans kq1
  have mq1 := (od8 q1 mq1).1
  have ne8 : q4 ≠ q7 := ne_role kq4 kq7 (by decide)
  have kq4 : C8 q4 = 0 := ((od8 q4 mq4).2 ne8).1.trans kq4
  have mq4 := (od8 q4 mq4).1
  have kq7 : C8 q7 = 2 := kq8
  have mq7 := (od8 q7 mq7).1
  have old := old.ctor od8 nq7
  refine pf_10_2 hx hb hts hown hH hin rfl ma0 ka0 rfl kf_X10_26 dX10_init_34 (fun R9 H locs eR9 hH => ?_)
  have rra0 : R9 a0 = rl [(2, q7), (1, q4), (0, q1)] := by rw [eR9]; exact rl_put rra0
  have kk : KK L8 C8 I8 R9 [0, 2, 6, 16, 18, 22, 26, 32, 33, 34, 35, 36, 37, 38, 39, 40, 41, 42] := by rw [eR9]; exact kk.stR ka0 zr_26
  have old : Old L0 C0 (I0, J0, R0) a0 L8 C8 I8 J8 R9 := by rw [eR9]; exact old.stR (Or.inl rfl)
  refine lv_aload_n hx hb dX10_init_37 rfl (lv_at hl 0 rfl) ?_
  refine hNew (ci := 3) (N := 7) hx hb hts hown hH inX3 tyX3_ok rfl (by decide) rfl df_3 kcl_X10_30 kinst_X3 kini_X3 (by decide) (by decide) dX10_init_38 (fun q10 L10 C10 I10 J10 R10 H g10 eI10 eJ10 eR10 hH => ?_)
  have nq10 : q10 ∉ L0 := fun h => g10.2.2 (old q10 h).1
  have rra0 : R10 a0 = rl [(2, q7), (1, q4), (0, q1)] := by rw [eR10, va_up_ne _ _ (g10.ne ma0)]; exact rra0
  have ria0 : I10 a0 = il [] := by rw [eI10, va_up_ne _ _ (g10.ne ma0)]; exact ria0
  have ka0 := g10.role ma0 ka0
  have ma0 := g10.mem ma0
  have kq1 := g10.role mq1 kq1
  have mq1 := g10.mem mq1
  have kq4 := g10.role mq4 kq4
  have mq4 := g10.mem mq4
  have kq7 := g10.role mq7 kq7
  have mq7 := g10.mem mq7
  have mq10 := g10.new
  have kq10 := g10.at
  have rrq10 : R10 q10 = rl [] := by rw [eR10, va_up_self]; rfl
  have riq10 : I10 q10 = il [] := by rw [eI10, va_up_self]; rfl
  have kk := kk.new g10 eI10 eR10 zz_19 zr_19 (Or.inl rfl) (by decide)
  have old := old.new g10 eI10 eJ10 eR10
  refine lv_dup hx hb dX10_init_41 rfl ?_
  refine lv_aload_n hx hb dX10_init_42 rfl (lv_at hl 0 rfl) ?_
  refine gf_10_0 (b := q1) (by rw [rra0]; rfl) hx hb hts hown hH ma0 ka0 rfl kf_X10_12 dX10_init_43 ?_
  refine lv_aload_n hx hb dX10_init_46 rfl (lv_at hl 0 rfl) ?_
  refine gf_10_1 (b := q4) (by rw [rra0]; rfl) hx hb hts hown hH ma0 ka0 rfl kf_X10_19 dX10_init_47 ?_
  refine lv_aload_n hx hb dX10_init_50 rfl (lv_at hl 0 rfl) ?_
  refine gf_10_2 (b := q7) (by rw [rra0]; rfl) hx hb hts hown hH ma0 ka0 rfl kf_X10_26 dX10_init_51 ?_
  refine afA (va_runI (As := [.ref q1, .ref q4, .ref q7]) (rest := [.ref q10, .ref a0]) ⟨hx, hb, hml, hown, hts⟩ (c_X3_init kk mq10 kq10 riq10 rrq10 mq1 kq1 mq4 kq4 mq7 kq7) ⟨callB_of 3 hts (wG_code kc_yX3_init) rfl rfl rfl (hts _ kini_X3) (hts _ km_X10_32) ⟨by decide, by decide, by decide +kernel⟩ ⟨by decide, by decide⟩, rfl, hts _ ki_yX3_init⟩ (preS hH) rfl rfl hl.1 rfl (lv_room (Nat.le_of_ble_eq_true rfl)) dX10_init_54 ⟨by decide, by decide⟩) hH (fun L11 C11 I11 J11 R11 H locs hp hH => ?_)
  obtain ⟨kk, od11, kq11⟩ := hp
  have ne11 : a0 ≠ q10 := ne_role ka0 kq10 (by decide)
  have rra0 : R11 a0 = rl [(2, q7), (1, q4), (0, q1)] := ((od11 a0 ma0).2 ne11).2.2.2.trans rra0
  have ria0 : I11 a0 = il [] := ((od11 a0 ma0).2 ne11).2.1.trans ria0
  have ka0 : C11 a0 = 26 := ((od11 a0 ma0).2 ne11).1.trans ka0
  have ma0 := (od11 a0 ma0).1
  have ne11 : q1 ≠ q10 := ne_role kq1 kq10 (by decide)
  have kq1 : C11 q1 = 6 := ((od11 q1 mq1).2 ne11).1.trans kq1
  have mq1 := (od11 q1 mq1).1
  have ne11 : q4 ≠ q10 := ne_role kq4 kq10 (by decide)
  have kq4 : C11 q4 = 0 := ((od11 q4 mq4).2 ne11).1.trans kq4
  have mq4 := (od11 q4 mq4).1
  have ne11 : q7 ≠ q10 := ne_role kq7 kq10 (by decide)
  have kq7 : C11 q7 = 2 := ((od11 q7 mq7).2 ne11).1.trans kq7
  have mq7 := (od11 q7 mq7).1
  have kq10 : C11 q10 = 3 := kq11
  have mq10 := (od11 q10 mq10).1
  have old := old.ctor od11 nq10
  refine pf_10_3 hx hb hts hown hH hin rfl ma0 ka0 rfl kf_X10_35 dX10_init_57 (fun R12 H locs eR12 hH => ?_)
  have rra0 : R12 a0 = rl [(3, q10), (2, q7), (1, q4), (0, q1)] := by rw [eR12]; exact rl_put rra0
  have kk : KK L11 C11 I11 R12 [0, 2, 3, 6, 16, 18, 19, 22, 26, 32, 33, 34, 35, 36, 37, 38, 39, 40, 41, 42, 43, 44] := by rw [eR12]; exact kk.stR ka0 zr_26
  have old : Old L0 C0 (I0, J0, R0) a0 L11 C11 I11 J11 R12 := by rw [eR12]; exact old.stR (Or.inl rfl)
  refine lv_aload_n hx hb dX10_init_60 rfl (lv_at hl 0 rfl) ?_
  refine lv_bipush (v := 20) hx hb dX10_init_61 (by decide) ?_
  refine hNewQ (k := 4) (r := 60) (N := 20) (C0 := RX7) hx hb hts hown hH kcl_X10_39 hH.2.2.2.2.2.2.1.2 rfl (eN_S rfl rfl) (by decide) (by decide) (by decide) (by decide) (by decide) dX10_init_63 (fun q13 L13 C13 I13 J13 R13 H g13 eI13 eJ13 eR13 hH => ?_)
  have nq13 : q13 ∉ L0 := fun h => g13.2.2 (old q13 h).1
  have rra0 : R13 a0 = rl [(3, q10), (2, q7), (1, q4), (0, q1)] := by rw [eR13, va_up_ne _ _ (g13.ne ma0)]; exact rra0
  have ria0 : I13 a0 = il [] := by rw [eI13, va_up_ne _ _ (g13.ne ma0)]; exact ria0
  have ka0 := g13.role ma0 ka0
  have ma0 := g13.mem ma0
  have kq1 := g13.role mq1 kq1
  have mq1 := g13.mem mq1
  have kq4 := g13.role mq4 kq4
  have mq4 := g13.mem mq4
  have kq7 := g13.role mq7 kq7
  have mq7 := g13.mem mq7
  have kq10 := g13.role mq10 kq10
  have mq10 := g13.mem mq10
  have mq13 := g13.new
  have kq13 := g13.at
  have rrq13 : R13 q13 = rl [] := by rw [eR13, va_up_self]; rfl
  have riq13 : I13 q13 = il [] := by rw [eI13, va_up_self]; rfl
  have kk := kk.new g13 eI13 eR13 zz_60 zr_60 (Or.inl rfl) (by decide)
  have old := old.new g13 eI13 eJ13 eR13
  refine pf_10_4 hx hb hts hown hH hin rfl ma0 ka0 rfl kf_X10_41 dX10_init_66 (fun R14 H locs eR14 hH => ?_)
  have rrq13 : R14 q13 = rl [] := by rw [eR14, u2_ne (ne_role kq13 ka0 (by decide))]; exact rrq13
  have rra0 : R14 a0 = rl [(4, q13), (3, q10), (2, q7), (1, q4), (0, q1)] := by rw [eR14]; exact rl_put rra0
  have kk : KK L13 C13 I13 R14 [60, 0, 2, 3, 6, 16, 18, 19, 22, 26, 32, 33, 34, 35, 36, 37, 38, 39, 40, 41, 42, 43, 44] := by rw [eR14]; exact kk.stR ka0 zr_26
  have old : Old L0 C0 (I0, J0, R0) a0 L13 C13 I13 J13 R14 := by rw [eR14]; exact old.stR (Or.inl rfl)
  refine lv_aload_n hx hb dX10_init_69 rfl (lv_at hl 0 rfl) ?_
  refine hNew (ci := 9) (N := 7) hx hb hts hown hH inX9 tyX9_ok rfl (by decide) rfl df_9 kcl_X10_45 kinst_X9 kini_X9 (by decide) (by decide) dX10_init_70 (fun q15 L15 C15 I15 J15 R15 H g15 eI15 eJ15 eR15 hH => ?_)
  have nq15 : q15 ∉ L0 := fun h => g15.2.2 (old q15 h).1
  have rra0 : R15 a0 = rl [(4, q13), (3, q10), (2, q7), (1, q4), (0, q1)] := by rw [eR15, va_up_ne _ _ (g15.ne ma0)]; exact rra0
  have ria0 : I15 a0 = il [] := by rw [eI15, va_up_ne _ _ (g15.ne ma0)]; exact ria0
  have ka0 := g15.role ma0 ka0
  have ma0 := g15.mem ma0
  have kq1 := g15.role mq1 kq1
  have mq1 := g15.mem mq1
  have kq4 := g15.role mq4 kq4
  have mq4 := g15.mem mq4
  have kq7 := g15.role mq7 kq7
  have mq7 := g15.mem mq7
  have kq10 := g15.role mq10 kq10
  have mq10 := g15.mem mq10
  have rrq13 : R15 q13 = rl [] := by rw [eR15, va_up_ne _ _ (g15.ne mq13)]; exact rrq13
  have riq13 : I15 q13 = il [] := by rw [eI15, va_up_ne _ _ (g15.ne mq13)]; exact riq13
  have kq13 := g15.role mq13 kq13
  have mq13 := g15.mem mq13
  have mq15 := g15.new
  have kq15 := g15.at
  have rrq15 : R15 q15 = rl [] := by rw [eR15, va_up_self]; rfl
  have riq15 : I15 q15 = il [] := by rw [eI15, va_up_self]; rfl
  have kk := kk.new g15 eI15 eR15 zz_25 zr_25 (Or.inl rfl) (by decide)
  have old := old.new g15 eI15 eJ15 eR15
  refine lv_dup hx hb dX10_init_73 rfl ?_
  refine lv_aload_n hx hb dX10_init_74 rfl (lv_at hl 0 rfl) ?_
  refine gf_10_3 (b := q10) (by rw [rra0]; rfl) hx hb hts hown hH ma0 ka0 rfl kf_X10_35 dX10_init_75 ?_
  refine lv_aload_n hx hb dX10_init_78 rfl (lv_at hl 0 rfl) ?_
  refine gf_10_4 (b := q13) (by rw [rra0]; rfl) hx hb hts hown hH ma0 ka0 rfl kf_X10_41 dX10_init_79 ?_
  refine afA (va_runI (As := [.ref q10, .ref q13]) (rest := [.ref q15, .ref a0]) ⟨hx, hb, hml, hown, hts⟩ (c_X9_init kk mq15 kq15 riq15 rrq15 mq10 kq10 mq13 kq13) ⟨callB_of 2 hts (wG_code kc_yX9_init) rfl rfl rfl (hts _ kini_X9) (hts _ km_X10_47) ⟨by decide, by decide, by decide +kernel⟩ ⟨by decide, by decide⟩, rfl, hts _ ki_yX9_init⟩ (preS hH) rfl rfl hl.1 rfl (lv_room (Nat.le_of_ble_eq_true rfl)) dX10_init_82 ⟨by decide, by decide⟩) hH (fun L16 C16 I16 J16 R16 H locs hp hH => ?_)
  obtain ⟨kk, od16, kq16, xr16⟩ := hp
  have ne16 : a0 ≠ q15 := ne_role ka0 kq15 (by decide)
  have rra0 : R16 a0 = rl [(4, q13), (3, q10), (2, q7), (1, q4), (0, q1)] := ((od16 a0 ma0).2 ne16).2.2.2.trans rra0
  have ria0 : I16 a0 = il [] := ((od16 a0 ma0).2 ne16).2.1.trans ria0
  have ka0 : C16 a0 = 26 := ((od16 a0 ma0).2 ne16).1.trans ka0
  have ma0 := (od16 a0 ma0).1
  have ne16 : q1 ≠ q15 := ne_role kq1 kq15 (by decide)
  have kq1 : C16 q1 = 6 := ((od16 q1 mq1).2 ne16).1.trans kq1
  have mq1 := (od16 q1 mq1).1
  have ne16 : q4 ≠ q15 := ne_role kq4 kq15 (by decide)
  have kq4 : C16 q4 = 0 := ((od16 q4 mq4).2 ne16).1.trans kq4
  have mq4 := (od16 q4 mq4).1
  have ne16 : q7 ≠ q15 := ne_role kq7 kq15 (by decide)
  have kq7 : C16 q7 = 2 := ((od16 q7 mq7).2 ne16).1.trans kq7
  have mq7 := (od16 q7 mq7).1
  have ne16 : q10 ≠ q15 := ne_role kq10 kq15 (by decide)
  have kq10 : C16 q10 = 3 := ((od16 q10 mq10).2 ne16).1.trans kq10
  have mq10 := (od16 q10 mq10).1
  have ne16 : q13 ≠ q15 := ne_role kq13 kq15 (by decide)
  have rrq13 : R16 q13 = rl [] := ((od16 q13 mq13).2 ne16).2.2.2.trans rrq13
  have riq13 : I16 q13 = il [] := ((od16 q13 mq13).2 ne16).2.1.trans riq13
  have kq13 : C16 q13 = 60 := ((od16 q13 mq13).2 ne16).1.trans kq13
  have mq13 := (od16 q13 mq13).1
  have kq15 : C16 q15 = 25 := kq16
  have mq15 := (od16 q15 mq15).1
  have old := old.ctor od16 nq15
  obtain ⟨z16_q7, z16_q3, z16_q1, rrq15, riq15, ⟨mz16_q7, kz16_q7⟩, ⟨mz16_q3, kz16_q3⟩, ⟨mz16_q1, kz16_q1⟩⟩ := xr16
  refine pf_10_5 hx hb hts hown hH hin rfl ma0 ka0 rfl kf_X10_50 dX10_init_85 (fun R17 H locs eR17 hH => ?_)
  have rrq13 : R17 q13 = rl [] := by rw [eR17, u2_ne (ne_role kq13 ka0 (by decide))]; exact rrq13
  have rrq15 : R17 q15 = rl [(1, q13), (0, q10), (6, z16_q7), (3, z16_q3), (2, z16_q1)] := by rw [eR17, u2_ne (ne_role kq15 ka0 (by decide))]; exact rrq15
  have rra0 : R17 a0 = rl [(5, q15), (4, q13), (3, q10), (2, q7), (1, q4), (0, q1)] := by rw [eR17]; exact rl_put rra0
  have kk : KK L16 C16 I16 R17 [0, 2, 3, 6, 16, 18, 19, 22, 25, 26, 32, 33, 34, 35, 36, 37, 38, 39, 40, 41, 42, 43, 44, 45, 46, 47, 60] := by rw [eR17]; exact kk.stR ka0 zr_26
  have old : Old L0 C0 (I0, J0, R0) a0 L16 C16 I16 J16 R17 := by rw [eR17]; exact old.stR (Or.inl rfl)
  refine lv_aload_n hx hb dX10_init_88 rfl (lv_at hl 0 rfl) ?_
  refine hNew (ci := 8) (N := 3) hx hb hts hown hH inX8 tyX8_ok rfl (by decide) rfl df_8 kcl_X10_54 kinst_X8 kini_X8 (by decide) (by decide) dX10_init_89 (fun q18 L18 C18 I18 J18 R18 H g18 eI18 eJ18 eR18 hH => ?_)
  have nq18 : q18 ∉ L0 := fun h => g18.2.2 (old q18 h).1
  have rra0 : R18 a0 = rl [(5, q15), (4, q13), (3, q10), (2, q7), (1, q4), (0, q1)] := by rw [eR18, va_up_ne _ _ (g18.ne ma0)]; exact rra0
  have ria0 : I18 a0 = il [] := by rw [eI18, va_up_ne _ _ (g18.ne ma0)]; exact ria0
  have ka0 := g18.role ma0 ka0
  have ma0 := g18.mem ma0
  have kq1 := g18.role mq1 kq1
  have mq1 := g18.mem mq1
  have kq4 := g18.role mq4 kq4
  have mq4 := g18.mem mq4
  have kq7 := g18.role mq7 kq7
  have mq7 := g18.mem mq7
  have kq10 := g18.role mq10 kq10
  have mq10 := g18.mem mq10
  have rrq13 : R18 q13 = rl [] := by rw [eR18, va_up_ne _ _ (g18.ne mq13)]; exact rrq13
  have riq13 : I18 q13 = il [] := by rw [eI18, va_up_ne _ _ (g18.ne mq13)]; exact riq13
  have kq13 := g18.role mq13 kq13
  have mq13 := g18.mem mq13
  have rrq15 : R18 q15 = rl [(1, q13), (0, q10), (6, z16_q7), (3, z16_q3), (2, z16_q1)] := by rw [eR18, va_up_ne _ _ (g18.ne mq15)]; exact rrq15
  have riq15 : I18 q15 = il [(5, 0), (4, 0)] := by rw [eI18, va_up_ne _ _ (g18.ne mq15)]; exact riq15
  have kq15 := g18.role mq15 kq15
  have mq15 := g18.mem mq15
  have kz16_q7 := g18.role mz16_q7 kz16_q7
  have mz16_q7 := g18.mem mz16_q7
  have kz16_q3 := g18.role mz16_q3 kz16_q3
  have mz16_q3 := g18.mem mz16_q3
  have kz16_q1 := g18.role mz16_q1 kz16_q1
  have mz16_q1 := g18.mem mz16_q1
  have mq18 := g18.new
  have kq18 := g18.at
  have rrq18 : R18 q18 = rl [] := by rw [eR18, va_up_self]; rfl
  have riq18 : I18 q18 = il [] := by rw [eI18, va_up_self]; rfl
  have kk := kk.new g18 eI18 eR18 zz_24 zr_24 (Or.inl rfl) (by decide)
  have old := old.new g18 eI18 eJ18 eR18
  refine lv_dup hx hb dX10_init_92 rfl ?_
  refine afA (va_runIN (As := []) (rest := [.ref q18, .ref a0]) ⟨hx, hb, hml, hown, hts⟩ (c_X8_init kk mq18 kq18 riq18 rrq18) ⟨va_cnB 0 hts (wG_code kc_yX8_init) rfl rfl rfl (hH.2.2.2.2.2.1 _ kn_X10_56) (hts _ kini_X8) ⟨by decide, by decide, by decide +kernel⟩ ⟨by decide, by decide⟩, rfl, hts _ ki_yX8_init⟩ (preS hH) rfl rfl hl.1 rfl (lv_room (Nat.le_of_ble_eq_true rfl)) dX10_init_93 ⟨by decide, by decide⟩) hH (fun L19 C19 I19 J19 R19 H locs hp hH => ?_)
  obtain ⟨kk, od19, kq19, va_q18_2⟩ := hp
  have ne19 : a0 ≠ q18 := ne_role ka0 kq18 (by decide)
  have rra0 : R19 a0 = rl [(5, q15), (4, q13), (3, q10), (2, q7), (1, q4), (0, q1)] := ((od19 a0 ma0).2 ne19).2.2.2.trans rra0
  have ria0 : I19 a0 = il [] := ((od19 a0 ma0).2 ne19).2.1.trans ria0
  have ka0 : C19 a0 = 26 := ((od19 a0 ma0).2 ne19).1.trans ka0
  have ma0 := (od19 a0 ma0).1
  have ne19 : q1 ≠ q18 := ne_role kq1 kq18 (by decide)
  have kq1 : C19 q1 = 6 := ((od19 q1 mq1).2 ne19).1.trans kq1
  have mq1 := (od19 q1 mq1).1
  have ne19 : q4 ≠ q18 := ne_role kq4 kq18 (by decide)
  have kq4 : C19 q4 = 0 := ((od19 q4 mq4).2 ne19).1.trans kq4
  have mq4 := (od19 q4 mq4).1
  have ne19 : q7 ≠ q18 := ne_role kq7 kq18 (by decide)
  have kq7 : C19 q7 = 2 := ((od19 q7 mq7).2 ne19).1.trans kq7
  have mq7 := (od19 q7 mq7).1
  have ne19 : q10 ≠ q18 := ne_role kq10 kq18 (by decide)
  have kq10 : C19 q10 = 3 := ((od19 q10 mq10).2 ne19).1.trans kq10
  have mq10 := (od19 q10 mq10).1
  have ne19 : q13 ≠ q18 := ne_role kq13 kq18 (by decide)
  have rrq13 : R19 q13 = rl [] := ((od19 q13 mq13).2 ne19).2.2.2.trans rrq13
  have riq13 : I19 q13 = il [] := ((od19 q13 mq13).2 ne19).2.1.trans riq13
  have kq13 : C19 q13 = 60 := ((od19 q13 mq13).2 ne19).1.trans kq13
  have mq13 := (od19 q13 mq13).1
  have ne19 : q15 ≠ q18 := ne_role kq15 kq18 (by decide)
  have rrq15 : R19 q15 = rl [(1, q13), (0, q10), (6, z16_q7), (3, z16_q3), (2, z16_q1)] := ((od19 q15 mq15).2 ne19).2.2.2.trans rrq15
  have riq15 : I19 q15 = il [(5, 0), (4, 0)] := ((od19 q15 mq15).2 ne19).2.1.trans riq15
  have kq15 : C19 q15 = 25 := ((od19 q15 mq15).2 ne19).1.trans kq15
  have mq15 := (od19 q15 mq15).1
  have ne19 : z16_q7 ≠ q18 := ne_role kz16_q7 kq18 (by decide)
  have kz16_q7 : C19 z16_q7 = 47 := ((od19 z16_q7 mz16_q7).2 ne19).1.trans kz16_q7
  have mz16_q7 := (od19 z16_q7 mz16_q7).1
  have ne19 : z16_q3 ≠ q18 := ne_role kz16_q3 kq18 (by decide)
  have kz16_q3 : C19 z16_q3 = 46 := ((od19 z16_q3 mz16_q3).2 ne19).1.trans kz16_q3
  have mz16_q3 := (od19 z16_q3 mz16_q3).1
  have ne19 : z16_q1 ≠ q18 := ne_role kz16_q1 kq18 (by decide)
  have kz16_q1 : C19 z16_q1 = 45 := ((od19 z16_q1 mz16_q1).2 ne19).1.trans kz16_q1
  have mz16_q1 := (od19 z16_q1 mz16_q1).1
  have kq18 : C19 q18 = 8 := kq19
  have mq18 := (od19 q18 mq18).1
  have old := old.ctor od19 nq18
  refine pf_10_6 hx hb hts hown hH hin rfl ma0 ka0 rfl kf_X10_57 dX10_init_96 (fun R20 H locs eR20 hH => ?_)
  have rrq13 : R20 q13 = rl [] := by rw [eR20, u2_ne (ne_role kq13 ka0 (by decide))]; exact rrq13
  have rrq15 : R20 q15 = rl [(1, q13), (0, q10), (6, z16_q7), (3, z16_q3), (2, z16_q1)] := by rw [eR20, u2_ne (ne_role kq15 ka0 (by decide))]; exact rrq15
  have rra0 : R20 a0 = rl [(6, q18), (5, q15), (4, q13), (3, q10), (2, q7), (1, q4), (0, q1)] := by rw [eR20]; exact rl_put rra0
  have kk : KK L19 C19 I19 R20 [0, 2, 3, 6, 8, 16, 18, 19, 22, 24, 25, 26, 32, 33, 34, 35, 36, 37, 38, 39, 40, 41, 42, 43, 44, 45, 46, 47, 48, 49, 60] := by rw [eR20]; exact kk.stR ka0 zr_26
  have old : Old L0 C0 (I0, J0, R0) a0 L19 C19 I19 J19 R20 := by rw [eR20]; exact old.stR (Or.inl rfl)
  refine lv_aload_n hx hb dX10_init_99 rfl (lv_at hl 0 rfl) ?_
  refine hNew (ci := 4) (N := 5) hx hb hts hown hH inX4 tyX4_ok rfl (by decide) rfl df_4 kcl_X10_61 kinst_X4 kini_X4 (by decide) (by decide) dX10_init_100 (fun q21 L21 C21 I21 J21 R21 H g21 eI21 eJ21 eR21 hH => ?_)
  have nq21 : q21 ∉ L0 := fun h => g21.2.2 (old q21 h).1
  have rra0 : R21 a0 = rl [(6, q18), (5, q15), (4, q13), (3, q10), (2, q7), (1, q4), (0, q1)] := by rw [eR21, va_up_ne _ _ (g21.ne ma0)]; exact rra0
  have ria0 : I21 a0 = il [] := by rw [eI21, va_up_ne _ _ (g21.ne ma0)]; exact ria0
  have ka0 := g21.role ma0 ka0
  have ma0 := g21.mem ma0
  have kq1 := g21.role mq1 kq1
  have mq1 := g21.mem mq1
  have kq4 := g21.role mq4 kq4
  have mq4 := g21.mem mq4
  have kq7 := g21.role mq7 kq7
  have mq7 := g21.mem mq7
  have kq10 := g21.role mq10 kq10
  have mq10 := g21.mem mq10
  have rrq13 : R21 q13 = rl [] := by rw [eR21, va_up_ne _ _ (g21.ne mq13)]; exact rrq13
  have riq13 : I21 q13 = il [] := by rw [eI21, va_up_ne _ _ (g21.ne mq13)]; exact riq13
  have kq13 := g21.role mq13 kq13
  have mq13 := g21.mem mq13
  have rrq15 : R21 q15 = rl [(1, q13), (0, q10), (6, z16_q7), (3, z16_q3), (2, z16_q1)] := by rw [eR21, va_up_ne _ _ (g21.ne mq15)]; exact rrq15
  have riq15 : I21 q15 = il [(5, 0), (4, 0)] := by rw [eI21, va_up_ne _ _ (g21.ne mq15)]; exact riq15
  have kq15 := g21.role mq15 kq15
  have mq15 := g21.mem mq15
  have kz16_q7 := g21.role mz16_q7 kz16_q7
  have mz16_q7 := g21.mem mz16_q7
  have kz16_q3 := g21.role mz16_q3 kz16_q3
  have mz16_q3 := g21.mem mz16_q3
  have kz16_q1 := g21.role mz16_q1 kz16_q1
  have mz16_q1 := g21.mem mz16_q1
  have n0q18 := g21.ne mq18
  have kq18 := g21.role mq18 kq18
  have mq18 := g21.mem mq18
  have mq21 := g21.new
  have kq21 := g21.at
  have va_q18_2 : I21 q18 2 = 0 := by rw [eI21, va_up_ne _ _ n0q18]; exact va_q18_2
  have rrq21 : R21 q21 = rl [] := by rw [eR21, va_up_self]; rfl
  have riq21 : I21 q21 = il [] := by rw [eI21, va_up_self]; rfl
  have kk := kk.new g21 eI21 eR21 zz_20 zr_20 (Or.inl rfl) (by decide)
  have old := old.new g21 eI21 eJ21 eR21
  refine lv_dup hx hb dX10_init_103 rfl ?_
  refine afA (va_runIN (As := []) (rest := [.ref q21, .ref a0]) ⟨hx, hb, hml, hown, hts⟩ (c_X4_init kk mq21 kq21 riq21 rrq21) ⟨va_cnB 0 hts (wG_code kc_yX4_init) rfl rfl rfl (hH.2.2.2.2.2.1 _ kn_X10_63) (hts _ kini_X4) ⟨by decide, by decide, by decide +kernel⟩ ⟨by decide, by decide⟩, rfl, hts _ ki_yX4_init⟩ (preS hH) rfl rfl hl.1 rfl (lv_room (Nat.le_of_ble_eq_true rfl)) dX10_init_104 ⟨by decide, by decide⟩) hH (fun L22 C22 I22 J22 R22 H locs hp hH => ?_)
  obtain ⟨kk, od22, kq22⟩ := hp
  have ne22 : a0 ≠ q21 := ne_role ka0 kq21 (by decide)
  have rra0 : R22 a0 = rl [(6, q18), (5, q15), (4, q13), (3, q10), (2, q7), (1, q4), (0, q1)] := ((od22 a0 ma0).2 ne22).2.2.2.trans rra0
  have ria0 : I22 a0 = il [] := ((od22 a0 ma0).2 ne22).2.1.trans ria0
  have ka0 : C22 a0 = 26 := ((od22 a0 ma0).2 ne22).1.trans ka0
  have ma0 := (od22 a0 ma0).1
  have ne22 : q1 ≠ q21 := ne_role kq1 kq21 (by decide)
  have kq1 : C22 q1 = 6 := ((od22 q1 mq1).2 ne22).1.trans kq1
  have mq1 := (od22 q1 mq1).1
  have ne22 : q4 ≠ q21 := ne_role kq4 kq21 (by decide)
  have kq4 : C22 q4 = 0 := ((od22 q4 mq4).2 ne22).1.trans kq4
  have mq4 := (od22 q4 mq4).1
  have ne22 : q7 ≠ q21 := ne_role kq7 kq21 (by decide)
  have kq7 : C22 q7 = 2 := ((od22 q7 mq7).2 ne22).1.trans kq7
  have mq7 := (od22 q7 mq7).1
  have ne22 : q10 ≠ q21 := ne_role kq10 kq21 (by decide)
  have kq10 : C22 q10 = 3 := ((od22 q10 mq10).2 ne22).1.trans kq10
  have mq10 := (od22 q10 mq10).1
  have ne22 : q13 ≠ q21 := ne_role kq13 kq21 (by decide)
  have rrq13 : R22 q13 = rl [] := ((od22 q13 mq13).2 ne22).2.2.2.trans rrq13
  have riq13 : I22 q13 = il [] := ((od22 q13 mq13).2 ne22).2.1.trans riq13
  have kq13 : C22 q13 = 60 := ((od22 q13 mq13).2 ne22).1.trans kq13
  have mq13 := (od22 q13 mq13).1
  have ne22 : q15 ≠ q21 := ne_role kq15 kq21 (by decide)
  have rrq15 : R22 q15 = rl [(1, q13), (0, q10), (6, z16_q7), (3, z16_q3), (2, z16_q1)] := ((od22 q15 mq15).2 ne22).2.2.2.trans rrq15
  have riq15 : I22 q15 = il [(5, 0), (4, 0)] := ((od22 q15 mq15).2 ne22).2.1.trans riq15
  have kq15 : C22 q15 = 25 := ((od22 q15 mq15).2 ne22).1.trans kq15
  have mq15 := (od22 q15 mq15).1
  have ne22 : z16_q7 ≠ q21 := ne_role kz16_q7 kq21 (by decide)
  have kz16_q7 : C22 z16_q7 = 47 := ((od22 z16_q7 mz16_q7).2 ne22).1.trans kz16_q7
  have mz16_q7 := (od22 z16_q7 mz16_q7).1
  have ne22 : z16_q3 ≠ q21 := ne_role kz16_q3 kq21 (by decide)
  have kz16_q3 : C22 z16_q3 = 46 := ((od22 z16_q3 mz16_q3).2 ne22).1.trans kz16_q3
  have mz16_q3 := (od22 z16_q3 mz16_q3).1
  have ne22 : z16_q1 ≠ q21 := ne_role kz16_q1 kq21 (by decide)
  have kz16_q1 : C22 z16_q1 = 45 := ((od22 z16_q1 mz16_q1).2 ne22).1.trans kz16_q1
  have mz16_q1 := (od22 z16_q1 mz16_q1).1
  have ne22 : q18 ≠ q21 := ne_role kq18 kq21 (by decide)
  have va_q18_2 : I22 q18 2 = 0 := (congrFun ((od22 q18 mq18).2 ne22).2.1 2).trans va_q18_2
  have kq18 : C22 q18 = 8 := ((od22 q18 mq18).2 ne22).1.trans kq18
  have mq18 := (od22 q18 mq18).1
  have kq21 : C22 q21 = 4 := kq22
  have mq21 := (od22 q21 mq21).1
  have old := old.ctor od22 nq21
  refine pf_10_7 hx hb hts hown hH hin rfl ma0 ka0 rfl kf_X10_64 dX10_init_107 (fun R23 H locs eR23 hH => ?_)
  have rrq13 : R23 q13 = rl [] := by rw [eR23, u2_ne (ne_role kq13 ka0 (by decide))]; exact rrq13
  have rrq15 : R23 q15 = rl [(1, q13), (0, q10), (6, z16_q7), (3, z16_q3), (2, z16_q1)] := by rw [eR23, u2_ne (ne_role kq15 ka0 (by decide))]; exact rrq15
  have rra0 : R23 a0 = rl [(7, q21), (6, q18), (5, q15), (4, q13), (3, q10), (2, q7), (1, q4), (0, q1)] := by rw [eR23]; exact rl_put rra0
  have kk : KK L22 C22 I22 R23 [0, 2, 3, 4, 6, 8, 16, 18, 19, 20, 22, 24, 25, 26, 32, 33, 34, 35, 36, 37, 38, 39, 40, 41, 42, 43, 44, 45, 46, 47, 48, 49, 60] := by rw [eR23]; exact kk.stR ka0 zr_26
  have old : Old L0 C0 (I0, J0, R0) a0 L22 C22 I22 J22 R23 := by rw [eR23]; exact old.stR (Or.inl rfl)
  refine lv_aload_n hx hb dX10_init_110 rfl (lv_at hl 0 rfl) ?_
  refine hNew (ci := 1) (N := 11) hx hb hts hown hH inX1 tyX1_ok rfl (by decide) rfl df_1 kcl_X10_68 kinst_X1 kini_X1 (by decide) (by decide) dX10_init_111 (fun q24 L24 C24 I24 J24 R24 H g24 eI24 eJ24 eR24 hH => ?_)
  have nq24 : q24 ∉ L0 := fun h => g24.2.2 (old q24 h).1
  have rra0 : R24 a0 = rl [(7, q21), (6, q18), (5, q15), (4, q13), (3, q10), (2, q7), (1, q4), (0, q1)] := by rw [eR24, va_up_ne _ _ (g24.ne ma0)]; exact rra0
  have ria0 : I24 a0 = il [] := by rw [eI24, va_up_ne _ _ (g24.ne ma0)]; exact ria0
  have ka0 := g24.role ma0 ka0
  have ma0 := g24.mem ma0
  have kq1 := g24.role mq1 kq1
  have mq1 := g24.mem mq1
  have kq4 := g24.role mq4 kq4
  have mq4 := g24.mem mq4
  have kq7 := g24.role mq7 kq7
  have mq7 := g24.mem mq7
  have kq10 := g24.role mq10 kq10
  have mq10 := g24.mem mq10
  have rrq13 : R24 q13 = rl [] := by rw [eR24, va_up_ne _ _ (g24.ne mq13)]; exact rrq13
  have riq13 : I24 q13 = il [] := by rw [eI24, va_up_ne _ _ (g24.ne mq13)]; exact riq13
  have kq13 := g24.role mq13 kq13
  have mq13 := g24.mem mq13
  have rrq15 : R24 q15 = rl [(1, q13), (0, q10), (6, z16_q7), (3, z16_q3), (2, z16_q1)] := by rw [eR24, va_up_ne _ _ (g24.ne mq15)]; exact rrq15
  have riq15 : I24 q15 = il [(5, 0), (4, 0)] := by rw [eI24, va_up_ne _ _ (g24.ne mq15)]; exact riq15
  have kq15 := g24.role mq15 kq15
  have mq15 := g24.mem mq15
  have kz16_q7 := g24.role mz16_q7 kz16_q7
  have mz16_q7 := g24.mem mz16_q7
  have kz16_q3 := g24.role mz16_q3 kz16_q3
  have mz16_q3 := g24.mem mz16_q3
  have kz16_q1 := g24.role mz16_q1 kz16_q1
  have mz16_q1 := g24.mem mz16_q1
  have n0q18 := g24.ne mq18
  have kq18 := g24.role mq18 kq18
  have mq18 := g24.mem mq18
  have kq21 := g24.role mq21 kq21
  have mq21 := g24.mem mq21
  have mq24 := g24.new
  have kq24 := g24.at
  have va_q18_2 : I24 q18 2 = 0 := by rw [eI24, va_up_ne _ _ n0q18]; exact va_q18_2
  have rrq24 : R24 q24 = rl [] := by rw [eR24, va_up_self]; rfl
  have riq24 : I24 q24 = il [] := by rw [eI24, va_up_self]; rfl
  have kk := kk.new g24 eI24 eR24 zz_17 zr_17 (Or.inl rfl) (by decide)
  have old := old.new g24 eI24 eJ24 eR24
  refine lv_dup hx hb dX10_init_114 rfl ?_
  refine lv_aload_n hx hb dX10_init_115 rfl (lv_at hl 0 rfl) ?_
  refine gf_10_0 (b := q1) (by rw [rra0]; rfl) hx hb hts hown hH ma0 ka0 rfl kf_X10_12 dX10_init_116 ?_
  refine lv_aload_n hx hb dX10_init_119 rfl (lv_at hl 0 rfl) ?_
  refine gf_10_2 (b := q7) (by rw [rra0]; rfl) hx hb hts hown hH ma0 ka0 rfl kf_X10_26 dX10_init_120 ?_
  refine lv_aload_n hx hb dX10_init_123 rfl (lv_at hl 0 rfl) ?_
  refine gf_10_3 (b := q10) (by rw [rra0]; rfl) hx hb hts hown hH ma0 ka0 rfl kf_X10_35 dX10_init_124 ?_
  refine lv_aload_n hx hb dX10_init_127 rfl (lv_at hl 0 rfl) ?_
  refine gf_10_7 (b := q21) (by rw [rra0]; rfl) hx hb hts hown hH ma0 ka0 rfl kf_X10_64 dX10_init_128 ?_
  refine afA (va_runI (As := [.ref q1, .ref q7, .ref q10, .ref q21]) (rest := [.ref q24, .ref a0]) ⟨hx, hb, hml, hown, hts⟩ (c_X1_init kk mq24 kq24 riq24 rrq24 mq1 kq1 mq7 kq7 mq10 kq10 mq21 kq21) ⟨callB_of 4 hts (wG_code kc_yX1_init) rfl rfl rfl (hts _ kini_X1) (hts _ km_X10_70) ⟨by decide, by decide, by decide +kernel⟩ ⟨by decide, by decide⟩, rfl, hts _ ki_yX1_init⟩ (preS hH) rfl rfl hl.1 rfl (lv_room (Nat.le_of_ble_eq_true rfl)) dX10_init_131 ⟨by decide, by decide⟩) hH (fun L25 C25 I25 J25 R25 H locs hp hH => ?_)
  obtain ⟨kk, od25, kq25⟩ := hp
  have ne25 : a0 ≠ q24 := ne_role ka0 kq24 (by decide)
  have rra0 : R25 a0 = rl [(7, q21), (6, q18), (5, q15), (4, q13), (3, q10), (2, q7), (1, q4), (0, q1)] := ((od25 a0 ma0).2 ne25).2.2.2.trans rra0
  have ria0 : I25 a0 = il [] := ((od25 a0 ma0).2 ne25).2.1.trans ria0
  have ka0 : C25 a0 = 26 := ((od25 a0 ma0).2 ne25).1.trans ka0
  have ma0 := (od25 a0 ma0).1
  have ne25 : q1 ≠ q24 := ne_role kq1 kq24 (by decide)
  have kq1 : C25 q1 = 6 := ((od25 q1 mq1).2 ne25).1.trans kq1
  have mq1 := (od25 q1 mq1).1
  have ne25 : q4 ≠ q24 := ne_role kq4 kq24 (by decide)
  have kq4 : C25 q4 = 0 := ((od25 q4 mq4).2 ne25).1.trans kq4
  have mq4 := (od25 q4 mq4).1
  have ne25 : q7 ≠ q24 := ne_role kq7 kq24 (by decide)
  have kq7 : C25 q7 = 2 := ((od25 q7 mq7).2 ne25).1.trans kq7
  have mq7 := (od25 q7 mq7).1
  have ne25 : q10 ≠ q24 := ne_role kq10 kq24 (by decide)
  have kq10 : C25 q10 = 3 := ((od25 q10 mq10).2 ne25).1.trans kq10
  have mq10 := (od25 q10 mq10).1
  have ne25 : q13 ≠ q24 := ne_role kq13 kq24 (by decide)
  have rrq13 : R25 q13 = rl [] := ((od25 q13 mq13).2 ne25).2.2.2.trans rrq13
  have riq13 : I25 q13 = il [] := ((od25 q13 mq13).2 ne25).2.1.trans riq13
  have kq13 : C25 q13 = 60 := ((od25 q13 mq13).2 ne25).1.trans kq13
  have mq13 := (od25 q13 mq13).1
  have ne25 : q15 ≠ q24 := ne_role kq15 kq24 (by decide)
  have rrq15 : R25 q15 = rl [(1, q13), (0, q10), (6, z16_q7), (3, z16_q3), (2, z16_q1)] := ((od25 q15 mq15).2 ne25).2.2.2.trans rrq15
  have riq15 : I25 q15 = il [(5, 0), (4, 0)] := ((od25 q15 mq15).2 ne25).2.1.trans riq15
  have kq15 : C25 q15 = 25 := ((od25 q15 mq15).2 ne25).1.trans kq15
  have mq15 := (od25 q15 mq15).1
  have ne25 : z16_q7 ≠ q24 := ne_role kz16_q7 kq24 (by decide)
  have kz16_q7 : C25 z16_q7 = 47 := ((od25 z16_q7 mz16_q7).2 ne25).1.trans kz16_q7
  have mz16_q7 := (od25 z16_q7 mz16_q7).1
  have ne25 : z16_q3 ≠ q24 := ne_role kz16_q3 kq24 (by decide)
  have kz16_q3 : C25 z16_q3 = 46 := ((od25 z16_q3 mz16_q3).2 ne25).1.trans kz16_q3
  have mz16_q3 := (od25 z16_q3 mz16_q3).1
  have ne25 : z16_q1 ≠ q24 := ne_role kz16_q1 kq24 (by decide)
  have kz16_q1 : C25 z16_q1 = 45 := ((od25 z16_q1 mz16_q1).2 ne25).1.trans kz16_q1
  have mz16_q1 := (od25 z16_q1 mz16_q1).1
  have ne25 : q18 ≠ q24 := ne_role kq18 kq24 (by decide)
  have va_q18_2 : I25 q18 2 = 0 := (congrFun ((od25 q18 mq18).2 ne25).2.1 2).trans va_q18_2
  have kq18 : C25 q18 = 8 := ((od25 q18 mq18).2 ne25).1.trans kq18
  have mq18 := (od25 q18 mq18).1
  have ne25 : q21 ≠ q24 := ne_role kq21 kq24 (by decide)
  have kq21 : C25 q21 = 4 := ((od25 q21 mq21).2 ne25).1.trans kq21
  have mq21 := (od25 q21 mq21).1
  have kq24 : C25 q24 = 1 := kq25
  have mq24 := (od25 q24 mq24).1
  have old := old.ctor od25 nq24
  refine pf_10_8 hx hb hts hown hH hin rfl ma0 ka0 rfl kf_X10_73 dX10_init_134 (fun R26 H locs eR26 hH => ?_)
  have rrq13 : R26 q13 = rl [] := by rw [eR26, u2_ne (ne_role kq13 ka0 (by decide))]; exact rrq13
  have rrq15 : R26 q15 = rl [(1, q13), (0, q10), (6, z16_q7), (3, z16_q3), (2, z16_q1)] := by rw [eR26, u2_ne (ne_role kq15 ka0 (by decide))]; exact rrq15
  have rra0 : R26 a0 = rl [(8, q24), (7, q21), (6, q18), (5, q15), (4, q13), (3, q10), (2, q7), (1, q4), (0, q1)] := by rw [eR26]; exact rl_put rra0
  have kk : KK L25 C25 I25 R26 [0, 1, 2, 3, 4, 5, 6, 8, 16, 17, 18, 19, 20, 21, 22, 24, 25, 26, 32, 33, 34, 35, 36, 37, 38, 39, 40, 41, 42, 43, 44, 45, 46, 47, 48, 49, 50, 51, 52, 53, 54, 55, 59, 60] := by rw [eR26]; exact kk.stR ka0 zr_26
  have old : Old L0 C0 (I0, J0, R0) a0 L25 C25 I25 J25 R26 := by rw [eR26]; exact old.stR (Or.inl rfl)
  refine lv_iconst (v := 0) hx hb dX10_init_137 (by decide) ?_
  refine lv_istore_n (lv' := [(1, .int 0), (0, .ref a0)]) hx hb dX10_init_138 rfl hl (by decide) rfl (fun ls hl => ?_)
  refine lv_iload_n hx hb dX10_init_139 rfl (lv_at hl 0 rfl) ?_
  refine lv_bipush (v := 20) hx hb dX10_init_140 (by decide) ?_
  refine lv_icmp_ge (tgt := 164) hx hb dX10_init_142 (by decide) (fun q => absurd q (by decide)) (fun q => ?_)
  refine lv_aload_n hx hb dX10_init_145 rfl (lv_at hl 1 rfl) ?_
  refine gf_10_4 (b := q13) (by rw [rra0]; rfl) hx hb hts hown hH ma0 ka0 rfl kf_X10_41 dX10_init_146 ?_
  refine lv_iload_n hx hb dX10_init_149 rfl (lv_at hl 0 rfl) ?_
  refine hNew (ci := 7) (N := 2) hx hb hts hown hH inX7 tyX7_ok rfl (by decide) rfl df_7 kcl_X10_39 kinst_X7 kini_X7 (by decide) (by decide) dX10_init_150 (fun q27 L27 C27 I27 J27 R27 H g27 eI27 eJ27 eR27 hH => ?_)
  have nq27 : q27 ∉ L0 := fun h => g27.2.2 (old q27 h).1
  have rra0 : R27 a0 = rl [(8, q24), (7, q21), (6, q18), (5, q15), (4, q13), (3, q10), (2, q7), (1, q4), (0, q1)] := by rw [eR27, va_up_ne _ _ (g27.ne ma0)]; exact rra0
  have ria0 : I27 a0 = il [] := by rw [eI27, va_up_ne _ _ (g27.ne ma0)]; exact ria0
  have ka0 := g27.role ma0 ka0
  have ma0 := g27.mem ma0
  have kq1 := g27.role mq1 kq1
  have mq1 := g27.mem mq1
  have kq4 := g27.role mq4 kq4
  have mq4 := g27.mem mq4
  have kq7 := g27.role mq7 kq7
  have mq7 := g27.mem mq7
  have kq10 := g27.role mq10 kq10
  have mq10 := g27.mem mq10
  have rrq13 : R27 q13 = rl [] := by rw [eR27, va_up_ne _ _ (g27.ne mq13)]; exact rrq13
  have riq13 : I27 q13 = il [] := by rw [eI27, va_up_ne _ _ (g27.ne mq13)]; exact riq13
  have kq13 := g27.role mq13 kq13
  have mq13 := g27.mem mq13
  have rrq15 : R27 q15 = rl [(1, q13), (0, q10), (6, z16_q7), (3, z16_q3), (2, z16_q1)] := by rw [eR27, va_up_ne _ _ (g27.ne mq15)]; exact rrq15
  have riq15 : I27 q15 = il [(5, 0), (4, 0)] := by rw [eI27, va_up_ne _ _ (g27.ne mq15)]; exact riq15
  have kq15 := g27.role mq15 kq15
  have mq15 := g27.mem mq15
  have kz16_q7 := g27.role mz16_q7 kz16_q7
  have mz16_q7 := g27.mem mz16_q7
  have kz16_q3 := g27.role mz16_q3 kz16_q3
  have mz16_q3 := g27.mem mz16_q3
  have kz16_q1 := g27.role mz16_q1 kz16_q1
  have mz16_q1 := g27.mem mz16_q1
  have n0q18 := g27.ne mq18
  have kq18 := g27.role mq18 kq18
  have mq18 := g27.mem mq18
  have kq21 := g27.role mq21 kq21
  have mq21 := g27.mem mq21
  have kq24 := g27.role mq24 kq24
  have mq24 := g27.mem mq24
  have mq27 := g27.new
  have kq27 := g27.at
  have va_q18_2 : I27 q18 2 = 0 := by rw [eI27, va_up_ne _ _ n0q18]; exact va_q18_2
  have rrq27 : R27 q27 = rl [] := by rw [eR27, va_up_self]; rfl
  have riq27 : I27 q27 = il [] := by rw [eI27, va_up_self]; rfl
  have kk := kk.new g27 eI27 eR27 zz_23 zr_23 (Or.inl rfl) (by decide)
  have old := old.new g27 eI27 eJ27 eR27
  refine lv_dup hx hb dX10_init_153 rfl ?_
  refine afA (va_runI (As := []) (rest := [.ref q27, .int 0, .ref q13]) ⟨hx, hb, hml, hown, hts⟩ (c_X7_init kk mq27 kq27 riq27 rrq27) ⟨callB_of 0 hts (wG_code kc_yX7_init) rfl rfl rfl (hts _ kini_X7) (hts _ km_X10_77) ⟨by decide, by decide, by decide +kernel⟩ ⟨by decide, by decide⟩, rfl, hts _ ki_yX7_init⟩ (preS hH) rfl rfl hl.1 rfl (lv_room (Nat.le_of_ble_eq_true rfl)) dX10_init_154 ⟨by decide, by decide⟩) hH (fun L28 C28 I28 J28 R28 H locs hp hH => ?_)
  obtain ⟨kk, od28, kq28⟩ := hp
  have ne28 : a0 ≠ q27 := ne_role ka0 kq27 (by decide)
  have rra0 : R28 a0 = rl [(8, q24), (7, q21), (6, q18), (5, q15), (4, q13), (3, q10), (2, q7), (1, q4), (0, q1)] := ((od28 a0 ma0).2 ne28).2.2.2.trans rra0
  have ria0 : I28 a0 = il [] := ((od28 a0 ma0).2 ne28).2.1.trans ria0
  have ka0 : C28 a0 = 26 := ((od28 a0 ma0).2 ne28).1.trans ka0
  have ma0 := (od28 a0 ma0).1
  have ne28 : q1 ≠ q27 := ne_role kq1 kq27 (by decide)
  have kq1 : C28 q1 = 6 := ((od28 q1 mq1).2 ne28).1.trans kq1
  have mq1 := (od28 q1 mq1).1
  have ne28 : q4 ≠ q27 := ne_role kq4 kq27 (by decide)
  have kq4 : C28 q4 = 0 := ((od28 q4 mq4).2 ne28).1.trans kq4
  have mq4 := (od28 q4 mq4).1
  have ne28 : q7 ≠ q27 := ne_role kq7 kq27 (by decide)
  have kq7 : C28 q7 = 2 := ((od28 q7 mq7).2 ne28).1.trans kq7
  have mq7 := (od28 q7 mq7).1
  have ne28 : q10 ≠ q27 := ne_role kq10 kq27 (by decide)
  have kq10 : C28 q10 = 3 := ((od28 q10 mq10).2 ne28).1.trans kq10
  have mq10 := (od28 q10 mq10).1
  have ne28 : q13 ≠ q27 := ne_role kq13 kq27 (by decide)
  have rrq13 : R28 q13 = rl [] := ((od28 q13 mq13).2 ne28).2.2.2.trans rrq13
  have riq13 : I28 q13 = il [] := ((od28 q13 mq13).2 ne28).2.1.trans riq13
  have kq13 : C28 q13 = 60 := ((od28 q13 mq13).2 ne28).1.trans kq13
  have mq13 := (od28 q13 mq13).1
  have ne28 : q15 ≠ q27 := ne_role kq15 kq27 (by decide)
  have rrq15 : R28 q15 = rl [(1, q13), (0, q10), (6, z16_q7), (3, z16_q3), (2, z16_q1)] := ((od28 q15 mq15).2 ne28).2.2.2.trans rrq15
  have riq15 : I28 q15 = il [(5, 0), (4, 0)] := ((od28 q15 mq15).2 ne28).2.1.trans riq15
  have kq15 : C28 q15 = 25 := ((od28 q15 mq15).2 ne28).1.trans kq15
  have mq15 := (od28 q15 mq15).1
  have ne28 : z16_q7 ≠ q27 := ne_role kz16_q7 kq27 (by decide)
  have kz16_q7 : C28 z16_q7 = 47 := ((od28 z16_q7 mz16_q7).2 ne28).1.trans kz16_q7
  have mz16_q7 := (od28 z16_q7 mz16_q7).1
  have ne28 : z16_q3 ≠ q27 := ne_role kz16_q3 kq27 (by decide)
  have kz16_q3 : C28 z16_q3 = 46 := ((od28 z16_q3 mz16_q3).2 ne28).1.trans kz16_q3
  have mz16_q3 := (od28 z16_q3 mz16_q3).1
  have ne28 : z16_q1 ≠ q27 := ne_role kz16_q1 kq27 (by decide)
  have kz16_q1 : C28 z16_q1 = 45 := ((od28 z16_q1 mz16_q1).2 ne28).1.trans kz16_q1
  have mz16_q1 := (od28 z16_q1 mz16_q1).1
  have ne28 : q18 ≠ q27 := ne_role kq18 kq27 (by decide)
  have va_q18_2 : I28 q18 2 = 0 := (congrFun ((od28 q18 mq18).2 ne28).2.1 2).trans va_q18_2
  have kq18 : C28 q18 = 8 := ((od28 q18 mq18).2 ne28).1.trans kq18
  have mq18 := (od28 q18 mq18).1
  have ne28 : q21 ≠ q27 := ne_role kq21 kq27 (by decide)
  have kq21 : C28 q21 = 4 := ((od28 q21 mq21).2 ne28).1.trans kq21
  have mq21 := (od28 q21 mq21).1
  have ne28 : q24 ≠ q27 := ne_role kq24 kq27 (by decide)
  have kq24 : C28 q24 = 1 := ((od28 q24 mq24).2 ne28).1.trans kq24
  have mq24 := (od28 q24 mq24).1
  have kq27 : C28 q27 = 7 := kq28
  have mq27 := (od28 q27 mq27).1
  have old := old.ctor od28 nq27
  have kk : KK L28 C28 I28 R28 [0, 1, 2, 3, 4, 5, 6, 7, 8, 16, 17, 18, 19, 20, 21, 22, 23, 24, 25, 26, 32, 33, 34, 35, 36, 37, 38, 39, 40, 41, 42, 43, 44, 45, 46, 47, 48, 49, 50, 51, 52, 53, 54, 55, 56, 58, 59, 60] := kk.wS rfl
  refine st_60 hx hb hH mq13 kq13 (Rg_in (Rg_c (x := 0) (a := 0) (b := 0) (by decide)) (by decide)) mq27 kq27 rfl dX10_init_157 (fun R29 H locs eR29 hH => ?_)
  have rra0 : R29 a0 = rl [(8, q24), (7, q21), (6, q18), (5, q15), (4, q13), (3, q10), (2, q7), (1, q4), (0, q1)] := by rw [eR29, u2_ne (ne_role ka0 kq13 (by decide))]; exact rra0
  have rrq15 : R29 q15 = rl [(1, q13), (0, q10), (6, z16_q7), (3, z16_q3), (2, z16_q1)] := by rw [eR29, u2_ne (ne_role kq15 kq13 (by decide))]; exact rrq15
  have rrq13 : R29 q13 = rl [(0, q27)] := by rw [eR29]; exact rl_put rrq13
  have kk : KK L28 C28 I28 R29 [0, 1, 2, 3, 4, 5, 6, 7, 8, 16, 17, 18, 19, 20, 21, 22, 23, 24, 25, 26, 32, 33, 34, 35, 36, 37, 38, 39, 40, 41, 42, 43, 44, 45, 46, 47, 48, 49, 50, 51, 52, 53, 54, 55, 56, 58, 59, 60] := by rw [eR29]; exact kk.stR kq13 zr_60
  have old : Old L0 C0 (I0, J0, R0) a0 L28 C28 I28 J28 R29 := by rw [eR29]; exact old.stR (Or.inr nq13)
  refine lv_iinc (v := 1) (lv' := [(1, .int 1), (0, .ref a0)]) hx hb dX10_init_158 hl (k := 0) rfl (by decide) (by decide) rfl (fun ls hl => ?_)
  refine lv_goto (tgt := 139) hx hb dX10_init_161 (by decide) ?_
  refine lv_iload_n hx hb dX10_init_139 rfl (lv_at hl 0 rfl) ?_
  refine lv_bipush (v := 20) hx hb dX10_init_140 (by decide) ?_
  refine lv_icmp_ge (tgt := 164) hx hb dX10_init_142 (by decide) (fun q => absurd q (by decide)) (fun q => ?_)
  refine lv_aload_n hx hb dX10_init_145 rfl (lv_at hl 1 rfl) ?_
  refine gf_10_4 (b := q13) (by rw [rra0]; rfl) hx hb hts hown hH ma0 ka0 rfl kf_X10_41 dX10_init_146 ?_
  refine lv_iload_n hx hb dX10_init_149 rfl (lv_at hl 0 rfl) ?_
  refine hNew (ci := 7) (N := 2) hx hb hts hown hH inX7 tyX7_ok rfl (by decide) rfl df_7 kcl_X10_39 kinst_X7 kini_X7 (by decide) (by decide) dX10_init_150 (fun q30 L30 C30 I30 J30 R30 H g30 eI30 eJ30 eR30 hH => ?_)
  have nq30 : q30 ∉ L0 := fun h => g30.2.2 (old q30 h).1
  have rra0 : R30 a0 = rl [(8, q24), (7, q21), (6, q18), (5, q15), (4, q13), (3, q10), (2, q7), (1, q4), (0, q1)] := by rw [eR30, va_up_ne _ _ (g30.ne ma0)]; exact rra0
  have ria0 : I30 a0 = il [] := by rw [eI30, va_up_ne _ _ (g30.ne ma0)]; exact ria0
  have ka0 := g30.role ma0 ka0
  have ma0 := g30.mem ma0
  have kq1 := g30.role mq1 kq1
  have mq1 := g30.mem mq1
  have kq4 := g30.role mq4 kq4
  have mq4 := g30.mem mq4
  have kq7 := g30.role mq7 kq7
  have mq7 := g30.mem mq7
  have kq10 := g30.role mq10 kq10
  have mq10 := g30.mem mq10
  have rrq13 : R30 q13 = rl [(0, q27)] := by rw [eR30, va_up_ne _ _ (g30.ne mq13)]; exact rrq13
  have riq13 : I30 q13 = il [] := by rw [eI30, va_up_ne _ _ (g30.ne mq13)]; exact riq13
  have kq13 := g30.role mq13 kq13
  have mq13 := g30.mem mq13
  have rrq15 : R30 q15 = rl [(1, q13), (0, q10), (6, z16_q7), (3, z16_q3), (2, z16_q1)] := by rw [eR30, va_up_ne _ _ (g30.ne mq15)]; exact rrq15
  have riq15 : I30 q15 = il [(5, 0), (4, 0)] := by rw [eI30, va_up_ne _ _ (g30.ne mq15)]; exact riq15
  have kq15 := g30.role mq15 kq15
  have mq15 := g30.mem mq15
  have kz16_q7 := g30.role mz16_q7 kz16_q7
  have mz16_q7 := g30.mem mz16_q7
  have kz16_q3 := g30.role mz16_q3 kz16_q3
  have mz16_q3 := g30.mem mz16_q3
  have kz16_q1 := g30.role mz16_q1 kz16_q1
  have mz16_q1 := g30.mem mz16_q1
  have n0q18 := g30.ne mq18
  have kq18 := g30.role mq18 kq18
  have mq18 := g30.mem mq18
  have kq21 := g30.role mq21 kq21
  have mq21 := g30.mem mq21
  have kq24 := g30.role mq24 kq24
  have mq24 := g30.mem mq24
  have kq27 := g30.role mq27 kq27
  have mq27 := g30.mem mq27
  have mq30 := g30.new
  have kq30 := g30.at
  have va_q18_2 : I30 q18 2 = 0 := by rw [eI30, va_up_ne _ _ n0q18]; exact va_q18_2
  have rrq30 : R30 q30 = rl [] := by rw [eR30, va_up_self]; rfl
  have riq30 : I30 q30 = il [] := by rw [eI30, va_up_self]; rfl
  have kk := kk.new g30 eI30 eR30 zz_23 zr_23 (Or.inl rfl) (by decide)
  have old := old.new g30 eI30 eJ30 eR30
  refine lv_dup hx hb dX10_init_153 rfl ?_
  refine afA (va_runI (As := []) (rest := [.ref q30, .int 1, .ref q13]) ⟨hx, hb, hml, hown, hts⟩ (c_X7_init kk mq30 kq30 riq30 rrq30) ⟨callB_of 0 hts (wG_code kc_yX7_init) rfl rfl rfl (hts _ kini_X7) (hts _ km_X10_77) ⟨by decide, by decide, by decide +kernel⟩ ⟨by decide, by decide⟩, rfl, hts _ ki_yX7_init⟩ (preS hH) rfl rfl hl.1 rfl (lv_room (Nat.le_of_ble_eq_true rfl)) dX10_init_154 ⟨by decide, by decide⟩) hH (fun L31 C31 I31 J31 R31 H locs hp hH => ?_)
  obtain ⟨kk, od31, kq31⟩ := hp
  have ne31 : a0 ≠ q30 := ne_role ka0 kq30 (by decide)
  have rra0 : R31 a0 = rl [(8, q24), (7, q21), (6, q18), (5, q15), (4, q13), (3, q10), (2, q7), (1, q4), (0, q1)] := ((od31 a0 ma0).2 ne31).2.2.2.trans rra0
  have ria0 : I31 a0 = il [] := ((od31 a0 ma0).2 ne31).2.1.trans ria0
  have ka0 : C31 a0 = 26 := ((od31 a0 ma0).2 ne31).1.trans ka0
  have ma0 := (od31 a0 ma0).1
  have ne31 : q1 ≠ q30 := ne_role kq1 kq30 (by decide)
  have kq1 : C31 q1 = 6 := ((od31 q1 mq1).2 ne31).1.trans kq1
  have mq1 := (od31 q1 mq1).1
  have ne31 : q4 ≠ q30 := ne_role kq4 kq30 (by decide)
  have kq4 : C31 q4 = 0 := ((od31 q4 mq4).2 ne31).1.trans kq4
  have mq4 := (od31 q4 mq4).1
  have ne31 : q7 ≠ q30 := ne_role kq7 kq30 (by decide)
  have kq7 : C31 q7 = 2 := ((od31 q7 mq7).2 ne31).1.trans kq7
  have mq7 := (od31 q7 mq7).1
  have ne31 : q10 ≠ q30 := ne_role kq10 kq30 (by decide)
  have kq10 : C31 q10 = 3 := ((od31 q10 mq10).2 ne31).1.trans kq10
  have mq10 := (od31 q10 mq10).1
  have ne31 : q13 ≠ q30 := ne_role kq13 kq30 (by decide)
  have rrq13 : R31 q13 = rl [(0, q27)] := ((od31 q13 mq13).2 ne31).2.2.2.trans rrq13
  have riq13 : I31 q13 = il [] := ((od31 q13 mq13).2 ne31).2.1.trans riq13
  have kq13 : C31 q13 = 60 := ((od31 q13 mq13).2 ne31).1.trans kq13
  have mq13 := (od31 q13 mq13).1
  have ne31 : q15 ≠ q30 := ne_role kq15 kq30 (by decide)
  have rrq15 : R31 q15 = rl [(1, q13), (0, q10), (6, z16_q7), (3, z16_q3), (2, z16_q1)] := ((od31 q15 mq15).2 ne31).2.2.2.trans rrq15
  have riq15 : I31 q15 = il [(5, 0), (4, 0)] := ((od31 q15 mq15).2 ne31).2.1.trans riq15
  have kq15 : C31 q15 = 25 := ((od31 q15 mq15).2 ne31).1.trans kq15
  have mq15 := (od31 q15 mq15).1
  have ne31 : z16_q7 ≠ q30 := ne_role kz16_q7 kq30 (by decide)
  have kz16_q7 : C31 z16_q7 = 47 := ((od31 z16_q7 mz16_q7).2 ne31).1.trans kz16_q7
  have mz16_q7 := (od31 z16_q7 mz16_q7).1
  have ne31 : z16_q3 ≠ q30 := ne_role kz16_q3 kq30 (by decide)
  have kz16_q3 : C31 z16_q3 = 46 := ((od31 z16_q3 mz16_q3).2 ne31).1.trans kz16_q3
  have mz16_q3 := (od31 z16_q3 mz16_q3).1
  have ne31 : z16_q1 ≠ q30 := ne_role kz16_q1 kq30 (by decide)
  have kz16_q1 : C31 z16_q1 = 45 := ((od31 z16_q1 mz16_q1).2 ne31).1.trans kz16_q1
  have mz16_q1 := (od31 z16_q1 mz16_q1).1
  have ne31 : q18 ≠ q30 := ne_role kq18 kq30 (by decide)
  have va_q18_2 : I31 q18 2 = 0 := (congrFun ((od31 q18 mq18).2 ne31).2.1 2).trans va_q18_2
  have kq18 : C31 q18 = 8 := ((od31 q18 mq18).2 ne31).1.trans kq18
  have mq18 := (od31 q18 mq18).1
  have ne31 : q21 ≠ q30 := ne_role kq21 kq30 (by decide)
  have kq21 : C31 q21 = 4 := ((od31 q21 mq21).2 ne31).1.trans kq21
  have mq21 := (od31 q21 mq21).1
  have ne31 : q24 ≠ q30 := ne_role kq24 kq30 (by decide)
  have kq24 : C31 q24 = 1 := ((od31 q24 mq24).2 ne31).1.trans kq24
  have mq24 := (od31 q24 mq24).1
  have ne31 : q27 ≠ q30 := ne_role kq27 kq30 (by decide)
  have kq27 : C31 q27 = 7 := ((od31 q27 mq27).2 ne31).1.trans kq27
  have mq27 := (od31 q27 mq27).1
  have kq30 : C31 q30 = 7 := kq31
  have mq30 := (od31 q30 mq30).1
  have old := old.ctor od31 nq30
  have kk : KK L31 C31 I31 R31 [0, 1, 2, 3, 4, 5, 6, 7, 8, 16, 17, 18, 19, 20, 21, 22, 23, 24, 25, 26, 32, 33, 34, 35, 36, 37, 38, 39, 40, 41, 42, 43, 44, 45, 46, 47, 48, 49, 50, 51, 52, 53, 54, 55, 56, 58, 59, 60] := kk.wS rfl
  refine st_60 hx hb hH mq13 kq13 (Rg_in (Rg_c (x := 1) (a := 1) (b := 1) (by decide)) (by decide)) mq30 kq30 rfl dX10_init_157 (fun R32 H locs eR32 hH => ?_)
  have rra0 : R32 a0 = rl [(8, q24), (7, q21), (6, q18), (5, q15), (4, q13), (3, q10), (2, q7), (1, q4), (0, q1)] := by rw [eR32, u2_ne (ne_role ka0 kq13 (by decide))]; exact rra0
  have rrq15 : R32 q15 = rl [(1, q13), (0, q10), (6, z16_q7), (3, z16_q3), (2, z16_q1)] := by rw [eR32, u2_ne (ne_role kq15 kq13 (by decide))]; exact rrq15
  have rrq13 : R32 q13 = rl [(1, q30), (0, q27)] := by rw [eR32]; exact rl_put rrq13
  have kk : KK L31 C31 I31 R32 [0, 1, 2, 3, 4, 5, 6, 7, 8, 16, 17, 18, 19, 20, 21, 22, 23, 24, 25, 26, 32, 33, 34, 35, 36, 37, 38, 39, 40, 41, 42, 43, 44, 45, 46, 47, 48, 49, 50, 51, 52, 53, 54, 55, 56, 58, 59, 60] := by rw [eR32]; exact kk.stR kq13 zr_60
  have old : Old L0 C0 (I0, J0, R0) a0 L31 C31 I31 J31 R32 := by rw [eR32]; exact old.stR (Or.inr nq13)
  refine lv_iinc (v := 2) (lv' := [(1, .int 2), (0, .ref a0)]) hx hb dX10_init_158 hl (k := 0) rfl (by decide) (by decide) rfl (fun ls hl => ?_)
  refine lv_goto (tgt := 139) hx hb dX10_init_161 (by decide) ?_
  refine lv_iload_n hx hb dX10_init_139 rfl (lv_at hl 0 rfl) ?_
  refine lv_bipush (v := 20) hx hb dX10_init_140 (by decide) ?_
  refine lv_icmp_ge (tgt := 164) hx hb dX10_init_142 (by decide) (fun q => absurd q (by decide)) (fun q => ?_)
  refine lv_aload_n hx hb dX10_init_145 rfl (lv_at hl 1 rfl) ?_
  refine gf_10_4 (b := q13) (by rw [rra0]; rfl) hx hb hts hown hH ma0 ka0 rfl kf_X10_41 dX10_init_146 ?_
  refine lv_iload_n hx hb dX10_init_149 rfl (lv_at hl 0 rfl) ?_
  refine hNew (ci := 7) (N := 2) hx hb hts hown hH inX7 tyX7_ok rfl (by decide) rfl df_7 kcl_X10_39 kinst_X7 kini_X7 (by decide) (by decide) dX10_init_150 (fun q33 L33 C33 I33 J33 R33 H g33 eI33 eJ33 eR33 hH => ?_)
  have nq33 : q33 ∉ L0 := fun h => g33.2.2 (old q33 h).1
  have rra0 : R33 a0 = rl [(8, q24), (7, q21), (6, q18), (5, q15), (4, q13), (3, q10), (2, q7), (1, q4), (0, q1)] := by rw [eR33, va_up_ne _ _ (g33.ne ma0)]; exact rra0
  have ria0 : I33 a0 = il [] := by rw [eI33, va_up_ne _ _ (g33.ne ma0)]; exact ria0
  have ka0 := g33.role ma0 ka0
  have ma0 := g33.mem ma0
  have kq1 := g33.role mq1 kq1
  have mq1 := g33.mem mq1
  have kq4 := g33.role mq4 kq4
  have mq4 := g33.mem mq4
  have kq7 := g33.role mq7 kq7
  have mq7 := g33.mem mq7
  have kq10 := g33.role mq10 kq10
  have mq10 := g33.mem mq10
  have rrq13 : R33 q13 = rl [(1, q30), (0, q27)] := by rw [eR33, va_up_ne _ _ (g33.ne mq13)]; exact rrq13
  have riq13 : I33 q13 = il [] := by rw [eI33, va_up_ne _ _ (g33.ne mq13)]; exact riq13
  have kq13 := g33.role mq13 kq13
  have mq13 := g33.mem mq13
  have rrq15 : R33 q15 = rl [(1, q13), (0, q10), (6, z16_q7), (3, z16_q3), (2, z16_q1)] := by rw [eR33, va_up_ne _ _ (g33.ne mq15)]; exact rrq15
  have riq15 : I33 q15 = il [(5, 0), (4, 0)] := by rw [eI33, va_up_ne _ _ (g33.ne mq15)]; exact riq15
  have kq15 := g33.role mq15 kq15
  have mq15 := g33.mem mq15
  have kz16_q7 := g33.role mz16_q7 kz16_q7
  have mz16_q7 := g33.mem mz16_q7
  have kz16_q3 := g33.role mz16_q3 kz16_q3
  have mz16_q3 := g33.mem mz16_q3
  have kz16_q1 := g33.role mz16_q1 kz16_q1
  have mz16_q1 := g33.mem mz16_q1
  have n0q18 := g33.ne mq18
  have kq18 := g33.role mq18 kq18
  have mq18 := g33.mem mq18
  have kq21 := g33.role mq21 kq21
  have mq21 := g33.mem mq21
  have kq24 := g33.role mq24 kq24
  have mq24 := g33.mem mq24
  have kq27 := g33.role mq27 kq27
  have mq27 := g33.mem mq27
  have kq30 := g33.role mq30 kq30
  have mq30 := g33.mem mq30
  have mq33 := g33.new
  have kq33 := g33.at
  have va_q18_2 : I33 q18 2 = 0 := by rw [eI33, va_up_ne _ _ n0q18]; exact va_q18_2
  have rrq33 : R33 q33 = rl [] := by rw [eR33, va_up_self]; rfl
  have riq33 : I33 q33 = il [] := by rw [eI33, va_up_self]; rfl
  have kk := kk.new g33 eI33 eR33 zz_23 zr_23 (Or.inl rfl) (by decide)
  have old := old.new g33 eI33 eJ33 eR33
  refine lv_dup hx hb dX10_init_153 rfl ?_
  refine afA (va_runI (As := []) (rest := [.ref q33, .int 2, .ref q13]) ⟨hx, hb, hml, hown, hts⟩ (c_X7_init kk mq33 kq33 riq33 rrq33) ⟨callB_of 0 hts (wG_code kc_yX7_init) rfl rfl rfl (hts _ kini_X7) (hts _ km_X10_77) ⟨by decide, by decide, by decide +kernel⟩ ⟨by decide, by decide⟩, rfl, hts _ ki_yX7_init⟩ (preS hH) rfl rfl hl.1 rfl (lv_room (Nat.le_of_ble_eq_true rfl)) dX10_init_154 ⟨by decide, by decide⟩) hH (fun L34 C34 I34 J34 R34 H locs hp hH => ?_)
  obtain ⟨kk, od34, kq34⟩ := hp
  have ne34 : a0 ≠ q33 := ne_role ka0 kq33 (by decide)
  have rra0 : R34 a0 = rl [(8, q24), (7, q21), (6, q18), (5, q15), (4, q13), (3, q10), (2, q7), (1, q4), (0, q1)] := ((od34 a0 ma0).2 ne34).2.2.2.trans rra0
  have ria0 : I34 a0 = il [] := ((od34 a0 ma0).2 ne34).2.1.trans ria0
  have ka0 : C34 a0 = 26 := ((od34 a0 ma0).2 ne34).1.trans ka0
  have ma0 := (od34 a0 ma0).1
  have ne34 : q1 ≠ q33 := ne_role kq1 kq33 (by decide)
  have kq1 : C34 q1 = 6 := ((od34 q1 mq1).2 ne34).1.trans kq1
  have mq1 := (od34 q1 mq1).1
  have ne34 : q4 ≠ q33 := ne_role kq4 kq33 (by decide)
  have kq4 : C34 q4 = 0 := ((od34 q4 mq4).2 ne34).1.trans kq4
  have mq4 := (od34 q4 mq4).1
  have ne34 : q7 ≠ q33 := ne_role kq7 kq33 (by decide)
  have kq7 : C34 q7 = 2 := ((od34 q7 mq7).2 ne34).1.trans kq7
  have mq7 := (od34 q7 mq7).1
  have ne34 : q10 ≠ q33 := ne_role kq10 kq33 (by decide)
  have kq10 : C34 q10 = 3 := ((od34 q10 mq10).2 ne34).1.trans kq10
  have mq10 := (od34 q10 mq10).1
  have ne34 : q13 ≠ q33 := ne_role kq13 kq33 (by decide)
  have rrq13 : R34 q13 = rl [(1, q30), (0, q27)] := ((od34 q13 mq13).2 ne34).2.2.2.trans rrq13
  have riq13 : I34 q13 = il [] := ((od34 q13 mq13).2 ne34).2.1.trans riq13
  have kq13 : C34 q13 = 60 := ((od34 q13 mq13).2 ne34).1.trans kq13
  have mq13 := (od34 q13 mq13).1
  have ne34 : q15 ≠ q33 := ne_role kq15 kq33 (by decide)
  have rrq15 : R34 q15 = rl [(1, q13), (0, q10), (6, z16_q7), (3, z16_q3), (2, z16_q1)] := ((od34 q15 mq15).2 ne34).2.2.2.trans rrq15
  have riq15 : I34 q15 = il [(5, 0), (4, 0)] := ((od34 q15 mq15).2 ne34).2.1.trans riq15
  have kq15 : C34 q15 = 25 := ((od34 q15 mq15).2 ne34).1.trans kq15
  have mq15 := (od34 q15 mq15).1
  have ne34 : z16_q7 ≠ q33 := ne_role kz16_q7 kq33 (by decide)
  have kz16_q7 : C34 z16_q7 = 47 := ((od34 z16_q7 mz16_q7).2 ne34).1.trans kz16_q7
  have mz16_q7 := (od34 z16_q7 mz16_q7).1
  have ne34 : z16_q3 ≠ q33 := ne_role kz16_q3 kq33 (by decide)
  have kz16_q3 : C34 z16_q3 = 46 := ((od34 z16_q3 mz16_q3).2 ne34).1.trans kz16_q3
  have mz16_q3 := (od34 z16_q3 mz16_q3).1
  have ne34 : z16_q1 ≠ q33 := ne_role kz16_q1 kq33 (by decide)
  have kz16_q1 : C34 z16_q1 = 45 := ((od34 z16_q1 mz16_q1).2 ne34).1.trans kz16_q1
  have mz16_q1 := (od34 z16_q1 mz16_q1).1
  have ne34 : q18 ≠ q33 := ne_role kq18 kq33 (by decide)
  have va_q18_2 : I34 q18 2 = 0 := (congrFun ((od34 q18 mq18).2 ne34).2.1 2).trans va_q18_2
  have kq18 : C34 q18 = 8 := ((od34 q18 mq18).2 ne34).1.trans kq18
  have mq18 := (od34 q18 mq18).1
  have ne34 : q21 ≠ q33 := ne_role kq21 kq33 (by decide)
  have kq21 : C34 q21 = 4 := ((od34 q21 mq21).2 ne34).1.trans kq21
  have mq21 := (od34 q21 mq21).1
  have ne34 : q24 ≠ q33 := ne_role kq24 kq33 (by decide)
  have kq24 : C34 q24 = 1 := ((od34 q24 mq24).2 ne34).1.trans kq24
  have mq24 := (od34 q24 mq24).1
  have ne34 : q27 ≠ q33 := ne_role kq27 kq33 (by decide)
  have kq27 : C34 q27 = 7 := ((od34 q27 mq27).2 ne34).1.trans kq27
  have mq27 := (od34 q27 mq27).1
  have ne34 : q30 ≠ q33 := ne_role kq30 kq33 (by decide)
  have kq30 : C34 q30 = 7 := ((od34 q30 mq30).2 ne34).1.trans kq30
  have mq30 := (od34 q30 mq30).1
  have kq33 : C34 q33 = 7 := kq34
  have mq33 := (od34 q33 mq33).1
  have old := old.ctor od34 nq33
  have kk : KK L34 C34 I34 R34 [0, 1, 2, 3, 4, 5, 6, 7, 8, 16, 17, 18, 19, 20, 21, 22, 23, 24, 25, 26, 32, 33, 34, 35, 36, 37, 38, 39, 40, 41, 42, 43, 44, 45, 46, 47, 48, 49, 50, 51, 52, 53, 54, 55, 56, 58, 59, 60] := kk.wS rfl
  refine st_60 hx hb hH mq13 kq13 (Rg_in (Rg_c (x := 2) (a := 2) (b := 2) (by decide)) (by decide)) mq33 kq33 rfl dX10_init_157 (fun R35 H locs eR35 hH => ?_)
  have rra0 : R35 a0 = rl [(8, q24), (7, q21), (6, q18), (5, q15), (4, q13), (3, q10), (2, q7), (1, q4), (0, q1)] := by rw [eR35, u2_ne (ne_role ka0 kq13 (by decide))]; exact rra0
  have rrq15 : R35 q15 = rl [(1, q13), (0, q10), (6, z16_q7), (3, z16_q3), (2, z16_q1)] := by rw [eR35, u2_ne (ne_role kq15 kq13 (by decide))]; exact rrq15
  have rrq13 : R35 q13 = rl [(2, q33), (1, q30), (0, q27)] := by rw [eR35]; exact rl_put rrq13
  have kk : KK L34 C34 I34 R35 [0, 1, 2, 3, 4, 5, 6, 7, 8, 16, 17, 18, 19, 20, 21, 22, 23, 24, 25, 26, 32, 33, 34, 35, 36, 37, 38, 39, 40, 41, 42, 43, 44, 45, 46, 47, 48, 49, 50, 51, 52, 53, 54, 55, 56, 58, 59, 60] := by rw [eR35]; exact kk.stR kq13 zr_60
  have old : Old L0 C0 (I0, J0, R0) a0 L34 C34 I34 J34 R35 := by rw [eR35]; exact old.stR (Or.inr nq13)
  refine lv_iinc (v := 3) (lv' := [(1, .int 3), (0, .ref a0)]) hx hb dX10_init_158 hl (k := 0) rfl (by decide) (by decide) rfl (fun ls hl => ?_)
  refine lv_goto (tgt := 139) hx hb dX10_init_161 (by decide) ?_
  refine lv_iload_n hx hb dX10_init_139 rfl (lv_at hl 0 rfl) ?_
  refine lv_bipush (v := 20) hx hb dX10_init_140 (by decide) ?_
  refine lv_icmp_ge (tgt := 164) hx hb dX10_init_142 (by decide) (fun q => absurd q (by decide)) (fun q => ?_)
  refine lv_aload_n hx hb dX10_init_145 rfl (lv_at hl 1 rfl) ?_
  refine gf_10_4 (b := q13) (by rw [rra0]; rfl) hx hb hts hown hH ma0 ka0 rfl kf_X10_41 dX10_init_146 ?_
  refine lv_iload_n hx hb dX10_init_149 rfl (lv_at hl 0 rfl) ?_
  refine hNew (ci := 7) (N := 2) hx hb hts hown hH inX7 tyX7_ok rfl (by decide) rfl df_7 kcl_X10_39 kinst_X7 kini_X7 (by decide) (by decide) dX10_init_150 (fun q36 L36 C36 I36 J36 R36 H g36 eI36 eJ36 eR36 hH => ?_)
  have nq36 : q36 ∉ L0 := fun h => g36.2.2 (old q36 h).1
  have rra0 : R36 a0 = rl [(8, q24), (7, q21), (6, q18), (5, q15), (4, q13), (3, q10), (2, q7), (1, q4), (0, q1)] := by rw [eR36, va_up_ne _ _ (g36.ne ma0)]; exact rra0
  have ria0 : I36 a0 = il [] := by rw [eI36, va_up_ne _ _ (g36.ne ma0)]; exact ria0
  have ka0 := g36.role ma0 ka0
  have ma0 := g36.mem ma0
  have kq1 := g36.role mq1 kq1
  have mq1 := g36.mem mq1
  have kq4 := g36.role mq4 kq4
  have mq4 := g36.mem mq4
  have kq7 := g36.role mq7 kq7
  have mq7 := g36.mem mq7
  have kq10 := g36.role mq10 kq10
  have mq10 := g36.mem mq10
  have rrq13 : R36 q13 = rl [(2, q33), (1, q30), (0, q27)] := by rw [eR36, va_up_ne _ _ (g36.ne mq13)]; exact rrq13
  have riq13 : I36 q13 = il [] := by rw [eI36, va_up_ne _ _ (g36.ne mq13)]; exact riq13
  have kq13 := g36.role mq13 kq13
  have mq13 := g36.mem mq13
  have rrq15 : R36 q15 = rl [(1, q13), (0, q10), (6, z16_q7), (3, z16_q3), (2, z16_q1)] := by rw [eR36, va_up_ne _ _ (g36.ne mq15)]; exact rrq15
  have riq15 : I36 q15 = il [(5, 0), (4, 0)] := by rw [eI36, va_up_ne _ _ (g36.ne mq15)]; exact riq15
  have kq15 := g36.role mq15 kq15
  have mq15 := g36.mem mq15
  have kz16_q7 := g36.role mz16_q7 kz16_q7
  have mz16_q7 := g36.mem mz16_q7
  have kz16_q3 := g36.role mz16_q3 kz16_q3
  have mz16_q3 := g36.mem mz16_q3
  have kz16_q1 := g36.role mz16_q1 kz16_q1
  have mz16_q1 := g36.mem mz16_q1
  have n0q18 := g36.ne mq18
  have kq18 := g36.role mq18 kq18
  have mq18 := g36.mem mq18
  have kq21 := g36.role mq21 kq21
  have mq21 := g36.mem mq21
  have kq24 := g36.role mq24 kq24
  have mq24 := g36.mem mq24
  have kq27 := g36.role mq27 kq27
  have mq27 := g36.mem mq27
  have kq30 := g36.role mq30 kq30
  have mq30 := g36.mem mq30
  have kq33 := g36.role mq33 kq33
  have mq33 := g36.mem mq33
  have mq36 := g36.new
  have kq36 := g36.at
  have va_q18_2 : I36 q18 2 = 0 := by rw [eI36, va_up_ne _ _ n0q18]; exact va_q18_2
  have rrq36 : R36 q36 = rl [] := by rw [eR36, va_up_self]; rfl
  have riq36 : I36 q36 = il [] := by rw [eI36, va_up_self]; rfl
  have kk := kk.new g36 eI36 eR36 zz_23 zr_23 (Or.inl rfl) (by decide)
  have old := old.new g36 eI36 eJ36 eR36
  refine lv_dup hx hb dX10_init_153 rfl ?_
  refine afA (va_runI (As := []) (rest := [.ref q36, .int 3, .ref q13]) ⟨hx, hb, hml, hown, hts⟩ (c_X7_init kk mq36 kq36 riq36 rrq36) ⟨callB_of 0 hts (wG_code kc_yX7_init) rfl rfl rfl (hts _ kini_X7) (hts _ km_X10_77) ⟨by decide, by decide, by decide +kernel⟩ ⟨by decide, by decide⟩, rfl, hts _ ki_yX7_init⟩ (preS hH) rfl rfl hl.1 rfl (lv_room (Nat.le_of_ble_eq_true rfl)) dX10_init_154 ⟨by decide, by decide⟩) hH (fun L37 C37 I37 J37 R37 H locs hp hH => ?_)
  obtain ⟨kk, od37, kq37⟩ := hp
  have ne37 : a0 ≠ q36 := ne_role ka0 kq36 (by decide)
  have rra0 : R37 a0 = rl [(8, q24), (7, q21), (6, q18), (5, q15), (4, q13), (3, q10), (2, q7), (1, q4), (0, q1)] := ((od37 a0 ma0).2 ne37).2.2.2.trans rra0
  have ria0 : I37 a0 = il [] := ((od37 a0 ma0).2 ne37).2.1.trans ria0
  have ka0 : C37 a0 = 26 := ((od37 a0 ma0).2 ne37).1.trans ka0
  have ma0 := (od37 a0 ma0).1
  have ne37 : q1 ≠ q36 := ne_role kq1 kq36 (by decide)
  have kq1 : C37 q1 = 6 := ((od37 q1 mq1).2 ne37).1.trans kq1
  have mq1 := (od37 q1 mq1).1
  have ne37 : q4 ≠ q36 := ne_role kq4 kq36 (by decide)
  have kq4 : C37 q4 = 0 := ((od37 q4 mq4).2 ne37).1.trans kq4
  have mq4 := (od37 q4 mq4).1
  have ne37 : q7 ≠ q36 := ne_role kq7 kq36 (by decide)
  have kq7 : C37 q7 = 2 := ((od37 q7 mq7).2 ne37).1.trans kq7
  have mq7 := (od37 q7 mq7).1
  have ne37 : q10 ≠ q36 := ne_role kq10 kq36 (by decide)
  have kq10 : C37 q10 = 3 := ((od37 q10 mq10).2 ne37).1.trans kq10
  have mq10 := (od37 q10 mq10).1
  have ne37 : q13 ≠ q36 := ne_role kq13 kq36 (by decide)
  have rrq13 : R37 q13 = rl [(2, q33), (1, q30), (0, q27)] := ((od37 q13 mq13).2 ne37).2.2.2.trans rrq13
  have riq13 : I37 q13 = il [] := ((od37 q13 mq13).2 ne37).2.1.trans riq13
  have kq13 : C37 q13 = 60 := ((od37 q13 mq13).2 ne37).1.trans kq13
  have mq13 := (od37 q13 mq13).1
  have ne37 : q15 ≠ q36 := ne_role kq15 kq36 (by decide)
  have rrq15 : R37 q15 = rl [(1, q13), (0, q10), (6, z16_q7), (3, z16_q3), (2, z16_q1)] := ((od37 q15 mq15).2 ne37).2.2.2.trans rrq15
  have riq15 : I37 q15 = il [(5, 0), (4, 0)] := ((od37 q15 mq15).2 ne37).2.1.trans riq15
  have kq15 : C37 q15 = 25 := ((od37 q15 mq15).2 ne37).1.trans kq15
  have mq15 := (od37 q15 mq15).1
  have ne37 : z16_q7 ≠ q36 := ne_role kz16_q7 kq36 (by decide)
  have kz16_q7 : C37 z16_q7 = 47 := ((od37 z16_q7 mz16_q7).2 ne37).1.trans kz16_q7
  have mz16_q7 := (od37 z16_q7 mz16_q7).1
  have ne37 : z16_q3 ≠ q36 := ne_role kz16_q3 kq36 (by decide)
  have kz16_q3 : C37 z16_q3 = 46 := ((od37 z16_q3 mz16_q3).2 ne37).1.trans kz16_q3
  have mz16_q3 := (od37 z16_q3 mz16_q3).1
  have ne37 : z16_q1 ≠ q36 := ne_role kz16_q1 kq36 (by decide)
  have kz16_q1 : C37 z16_q1 = 45 := ((od37 z16_q1 mz16_q1).2 ne37).1.trans kz16_q1
  have mz16_q1 := (od37 z16_q1 mz16_q1).1
  have ne37 : q18 ≠ q36 := ne_role kq18 kq36 (by decide)
  have va_q18_2 : I37 q18 2 = 0 := (congrFun ((od37 q18 mq18).2 ne37).2.1 2).trans va_q18_2
  have kq18 : C37 q18 = 8 := ((od37 q18 mq18).2 ne37).1.trans kq18
  have mq18 := (od37 q18 mq18).1
  have ne37 : q21 ≠ q36 := ne_role kq21 kq36 (by decide)
  have kq21 : C37 q21 = 4 := ((od37 q21 mq21).2 ne37).1.trans kq21
  have mq21 := (od37 q21 mq21).1
  have ne37 : q24 ≠ q36 := ne_role kq24 kq36 (by decide)
  have kq24 : C37 q24 = 1 := ((od37 q24 mq24).2 ne37).1.trans kq24
  have mq24 := (od37 q24 mq24).1
  have ne37 : q27 ≠ q36 := ne_role kq27 kq36 (by decide)
  have kq27 : C37 q27 = 7 := ((od37 q27 mq27).2 ne37).1.trans kq27
  have mq27 := (od37 q27 mq27).1
  have ne37 : q30 ≠ q36 := ne_role kq30 kq36 (by decide)
  have kq30 : C37 q30 = 7 := ((od37 q30 mq30).2 ne37).1.trans kq30
  have mq30 := (od37 q30 mq30).1
  have ne37 : q33 ≠ q36 := ne_role kq33 kq36 (by decide)
  have kq33 : C37 q33 = 7 := ((od37 q33 mq33).2 ne37).1.trans kq33
  have mq33 := (od37 q33 mq33).1
  have kq36 : C37 q36 = 7 := kq37
  have mq36 := (od37 q36 mq36).1
  have old := old.ctor od37 nq36
  have kk : KK L37 C37 I37 R37 [0, 1, 2, 3, 4, 5, 6, 7, 8, 16, 17, 18, 19, 20, 21, 22, 23, 24, 25, 26, 32, 33, 34, 35, 36, 37, 38, 39, 40, 41, 42, 43, 44, 45, 46, 47, 48, 49, 50, 51, 52, 53, 54, 55, 56, 58, 59, 60] := kk.wS rfl
  refine st_60 hx hb hH mq13 kq13 (Rg_in (Rg_c (x := 3) (a := 3) (b := 3) (by decide)) (by decide)) mq36 kq36 rfl dX10_init_157 (fun R38 H locs eR38 hH => ?_)
  have rra0 : R38 a0 = rl [(8, q24), (7, q21), (6, q18), (5, q15), (4, q13), (3, q10), (2, q7), (1, q4), (0, q1)] := by rw [eR38, u2_ne (ne_role ka0 kq13 (by decide))]; exact rra0
  have rrq15 : R38 q15 = rl [(1, q13), (0, q10), (6, z16_q7), (3, z16_q3), (2, z16_q1)] := by rw [eR38, u2_ne (ne_role kq15 kq13 (by decide))]; exact rrq15
  have rrq13 : R38 q13 = rl [(3, q36), (2, q33), (1, q30), (0, q27)] := by rw [eR38]; exact rl_put rrq13
  have kk : KK L37 C37 I37 R38 [0, 1, 2, 3, 4, 5, 6, 7, 8, 16, 17, 18, 19, 20, 21, 22, 23, 24, 25, 26, 32, 33, 34, 35, 36, 37, 38, 39, 40, 41, 42, 43, 44, 45, 46, 47, 48, 49, 50, 51, 52, 53, 54, 55, 56, 58, 59, 60] := by rw [eR38]; exact kk.stR kq13 zr_60
  have old : Old L0 C0 (I0, J0, R0) a0 L37 C37 I37 J37 R38 := by rw [eR38]; exact old.stR (Or.inr nq13)
  refine lv_iinc (v := 4) (lv' := [(1, .int 4), (0, .ref a0)]) hx hb dX10_init_158 hl (k := 0) rfl (by decide) (by decide) rfl (fun ls hl => ?_)
  refine lv_goto (tgt := 139) hx hb dX10_init_161 (by decide) ?_
  refine lv_iload_n hx hb dX10_init_139 rfl (lv_at hl 0 rfl) ?_
  refine lv_bipush (v := 20) hx hb dX10_init_140 (by decide) ?_
  refine lv_icmp_ge (tgt := 164) hx hb dX10_init_142 (by decide) (fun q => absurd q (by decide)) (fun q => ?_)
  refine lv_aload_n hx hb dX10_init_145 rfl (lv_at hl 1 rfl) ?_
  refine gf_10_4 (b := q13) (by rw [rra0]; rfl) hx hb hts hown hH ma0 ka0 rfl kf_X10_41 dX10_init_146 ?_
  refine lv_iload_n hx hb dX10_init_149 rfl (lv_at hl 0 rfl) ?_
  refine hNew (ci := 7) (N := 2) hx hb hts hown hH inX7 tyX7_ok rfl (by decide) rfl df_7 kcl_X10_39 kinst_X7 kini_X7 (by decide) (by decide) dX10_init_150 (fun q39 L39 C39 I39 J39 R39 H g39 eI39 eJ39 eR39 hH => ?_)
  have nq39 : q39 ∉ L0 := fun h => g39.2.2 (old q39 h).1
  have rra0 : R39 a0 = rl [(8, q24), (7, q21), (6, q18), (5, q15), (4, q13), (3, q10), (2, q7), (1, q4), (0, q1)] := by rw [eR39, va_up_ne _ _ (g39.ne ma0)]; exact rra0
  have ria0 : I39 a0 = il [] := by rw [eI39, va_up_ne _ _ (g39.ne ma0)]; exact ria0
  have ka0 := g39.role ma0 ka0
  have ma0 := g39.mem ma0
  have kq1 := g39.role mq1 kq1
  have mq1 := g39.mem mq1
  have kq4 := g39.role mq4 kq4
  have mq4 := g39.mem mq4
  have kq7 := g39.role mq7 kq7
  have mq7 := g39.mem mq7
  have kq10 := g39.role mq10 kq10
  have mq10 := g39.mem mq10
  have rrq13 : R39 q13 = rl [(3, q36), (2, q33), (1, q30), (0, q27)] := by rw [eR39, va_up_ne _ _ (g39.ne mq13)]; exact rrq13
  have riq13 : I39 q13 = il [] := by rw [eI39, va_up_ne _ _ (g39.ne mq13)]; exact riq13
  have kq13 := g39.role mq13 kq13
  have mq13 := g39.mem mq13
  have rrq15 : R39 q15 = rl [(1, q13), (0, q10), (6, z16_q7), (3, z16_q3), (2, z16_q1)] := by rw [eR39, va_up_ne _ _ (g39.ne mq15)]; exact rrq15
  have riq15 : I39 q15 = il [(5, 0), (4, 0)] := by rw [eI39, va_up_ne _ _ (g39.ne mq15)]; exact riq15
  have kq15 := g39.role mq15 kq15
  have mq15 := g39.mem mq15
  have kz16_q7 := g39.role mz16_q7 kz16_q7
  have mz16_q7 := g39.mem mz16_q7
  have kz16_q3 := g39.role mz16_q3 kz16_q3
  have mz16_q3 := g39.mem mz16_q3
  have kz16_q1 := g39.role mz16_q1 kz16_q1
  have mz16_q1 := g39.mem mz16_q1
  have n0q18 := g39.ne mq18
  have kq18 := g39.role mq18 kq18
  have mq18 := g39.mem mq18
  have kq21 := g39.role mq21 kq21
  have mq21 := g39.mem mq21
  have kq24 := g39.role mq24 kq24
  have mq24 := g39.mem mq24
  have kq27 := g39.role mq27 kq27
  have mq27 := g39.mem mq27
  have kq30 := g39.role mq30 kq30
  have mq30 := g39.mem mq30
  have kq33 := g39.role mq33 kq33
  have mq33 := g39.mem mq33
  have kq36 := g39.role mq36 kq36
  have mq36 := g39.mem mq36
  have mq39 := g39.new
  have kq39 := g39.at
  have va_q18_2 : I39 q18 2 = 0 := by rw [eI39, va_up_ne _ _ n0q18]; exact va_q18_2
  have rrq39 : R39 q39 = rl [] := by rw [eR39, va_up_self]; rfl
  have riq39 : I39 q39 = il [] := by rw [eI39, va_up_self]; rfl
  have kk := kk.new g39 eI39 eR39 zz_23 zr_23 (Or.inl rfl) (by decide)
  have old := old.new g39 eI39 eJ39 eR39
  refine lv_dup hx hb dX10_init_153 rfl ?_
  refine afA (va_runI (As := []) (rest := [.ref q39, .int 4, .ref q13]) ⟨hx, hb, hml, hown, hts⟩ (c_X7_init kk mq39 kq39 riq39 rrq39) ⟨callB_of 0 hts (wG_code kc_yX7_init) rfl rfl rfl (hts _ kini_X7) (hts _ km_X10_77) ⟨by decide, by decide, by decide +kernel⟩ ⟨by decide, by decide⟩, rfl, hts _ ki_yX7_init⟩ (preS hH) rfl rfl hl.1 rfl (lv_room (Nat.le_of_ble_eq_true rfl)) dX10_init_154 ⟨by decide, by decide⟩) hH (fun L40 C40 I40 J40 R40 H locs hp hH => ?_)
  obtain ⟨kk, od40, kq40⟩ := hp
  have ne40 : a0 ≠ q39 := ne_role ka0 kq39 (by decide)
  have rra0 : R40 a0 = rl [(8, q24), (7, q21), (6, q18), (5, q15), (4, q13), (3, q10), (2, q7), (1, q4), (0, q1)] := ((od40 a0 ma0).2 ne40).2.2.2.trans rra0
  have ria0 : I40 a0 = il [] := ((od40 a0 ma0).2 ne40).2.1.trans ria0
  have ka0 : C40 a0 = 26 := ((od40 a0 ma0).2 ne40).1.trans ka0
  have ma0 := (od40 a0 ma0).1
  have ne40 : q1 ≠ q39 := ne_role kq1 kq39 (by decide)
  have kq1 : C40 q1 = 6 := ((od40 q1 mq1).2 ne40).1.trans kq1
  have mq1 := (od40 q1 mq1).1
  have ne40 : q4 ≠ q39 := ne_role kq4 kq39 (by decide)
  have kq4 : C40 q4 = 0 := ((od40 q4 mq4).2 ne40).1.trans kq4
  have mq4 := (od40 q4 mq4).1
  have ne40 : q7 ≠ q39 := ne_role kq7 kq39 (by decide)
  have kq7 : C40 q7 = 2 := ((od40 q7 mq7).2 ne40).1.trans kq7
  have mq7 := (od40 q7 mq7).1
  have ne40 : q10 ≠ q39 := ne_role kq10 kq39 (by decide)
  have kq10 : C40 q10 = 3 := ((od40 q10 mq10).2 ne40).1.trans kq10
  have mq10 := (od40 q10 mq10).1
  have ne40 : q13 ≠ q39 := ne_role kq13 kq39 (by decide)
  have rrq13 : R40 q13 = rl [(3, q36), (2, q33), (1, q30), (0, q27)] := ((od40 q13 mq13).2 ne40).2.2.2.trans rrq13
  have riq13 : I40 q13 = il [] := ((od40 q13 mq13).2 ne40).2.1.trans riq13
  have kq13 : C40 q13 = 60 := ((od40 q13 mq13).2 ne40).1.trans kq13
  have mq13 := (od40 q13 mq13).1
  have ne40 : q15 ≠ q39 := ne_role kq15 kq39 (by decide)
  have rrq15 : R40 q15 = rl [(1, q13), (0, q10), (6, z16_q7), (3, z16_q3), (2, z16_q1)] := ((od40 q15 mq15).2 ne40).2.2.2.trans rrq15
  have riq15 : I40 q15 = il [(5, 0), (4, 0)] := ((od40 q15 mq15).2 ne40).2.1.trans riq15
  have kq15 : C40 q15 = 25 := ((od40 q15 mq15).2 ne40).1.trans kq15
  have mq15 := (od40 q15 mq15).1
  have ne40 : z16_q7 ≠ q39 := ne_role kz16_q7 kq39 (by decide)
  have kz16_q7 : C40 z16_q7 = 47 := ((od40 z16_q7 mz16_q7).2 ne40).1.trans kz16_q7
  have mz16_q7 := (od40 z16_q7 mz16_q7).1
  have ne40 : z16_q3 ≠ q39 := ne_role kz16_q3 kq39 (by decide)
  have kz16_q3 : C40 z16_q3 = 46 := ((od40 z16_q3 mz16_q3).2 ne40).1.trans kz16_q3
  have mz16_q3 := (od40 z16_q3 mz16_q3).1
  have ne40 : z16_q1 ≠ q39 := ne_role kz16_q1 kq39 (by decide)
  have kz16_q1 : C40 z16_q1 = 45 := ((od40 z16_q1 mz16_q1).2 ne40).1.trans kz16_q1
  have mz16_q1 := (od40 z16_q1 mz16_q1).1
  have ne40 : q18 ≠ q39 := ne_role kq18 kq39 (by decide)
  have va_q18_2 : I40 q18 2 = 0 := (congrFun ((od40 q18 mq18).2 ne40).2.1 2).trans va_q18_2
  have kq18 : C40 q18 = 8 := ((od40 q18 mq18).2 ne40).1.trans kq18
  have mq18 := (od40 q18 mq18).1
  have ne40 : q21 ≠ q39 := ne_role kq21 kq39 (by decide)
  have kq21 : C40 q21 = 4 := ((od40 q21 mq21).2 ne40).1.trans kq21
  have mq21 := (od40 q21 mq21).1
  have ne40 : q24 ≠ q39 := ne_role kq24 kq39 (by decide)
  have kq24 : C40 q24 = 1 := ((od40 q24 mq24).2 ne40).1.trans kq24
  have mq24 := (od40 q24 mq24).1
  have ne40 : q27 ≠ q39 := ne_role kq27 kq39 (by decide)
  have kq27 : C40 q27 = 7 := ((od40 q27 mq27).2 ne40).1.trans kq27
  have mq27 := (od40 q27 mq27).1
  have ne40 : q30 ≠ q39 := ne_role kq30 kq39 (by decide)
  have kq30 : C40 q30 = 7 := ((od40 q30 mq30).2 ne40).1.trans kq30
  have mq30 := (od40 q30 mq30).1
  have ne40 : q33 ≠ q39 := ne_role kq33 kq39 (by decide)
  have kq33 : C40 q33 = 7 := ((od40 q33 mq33).2 ne40).1.trans kq33
  have mq33 := (od40 q33 mq33).1
  have ne40 : q36 ≠ q39 := ne_role kq36 kq39 (by decide)
  have kq36 : C40 q36 = 7 := ((od40 q36 mq36).2 ne40).1.trans kq36
  have mq36 := (od40 q36 mq36).1
  have kq39 : C40 q39 = 7 := kq40
  have mq39 := (od40 q39 mq39).1
  have old := old.ctor od40 nq39
  have kk : KK L40 C40 I40 R40 [0, 1, 2, 3, 4, 5, 6, 7, 8, 16, 17, 18, 19, 20, 21, 22, 23, 24, 25, 26, 32, 33, 34, 35, 36, 37, 38, 39, 40, 41, 42, 43, 44, 45, 46, 47, 48, 49, 50, 51, 52, 53, 54, 55, 56, 58, 59, 60] := kk.wS rfl
  refine st_60 hx hb hH mq13 kq13 (Rg_in (Rg_c (x := 4) (a := 4) (b := 4) (by decide)) (by decide)) mq39 kq39 rfl dX10_init_157 (fun R41 H locs eR41 hH => ?_)
  have rra0 : R41 a0 = rl [(8, q24), (7, q21), (6, q18), (5, q15), (4, q13), (3, q10), (2, q7), (1, q4), (0, q1)] := by rw [eR41, u2_ne (ne_role ka0 kq13 (by decide))]; exact rra0
  have rrq15 : R41 q15 = rl [(1, q13), (0, q10), (6, z16_q7), (3, z16_q3), (2, z16_q1)] := by rw [eR41, u2_ne (ne_role kq15 kq13 (by decide))]; exact rrq15
  have rrq13 : R41 q13 = rl [(4, q39), (3, q36), (2, q33), (1, q30), (0, q27)] := by rw [eR41]; exact rl_put rrq13
  have kk : KK L40 C40 I40 R41 [0, 1, 2, 3, 4, 5, 6, 7, 8, 16, 17, 18, 19, 20, 21, 22, 23, 24, 25, 26, 32, 33, 34, 35, 36, 37, 38, 39, 40, 41, 42, 43, 44, 45, 46, 47, 48, 49, 50, 51, 52, 53, 54, 55, 56, 58, 59, 60] := by rw [eR41]; exact kk.stR kq13 zr_60
  have old : Old L0 C0 (I0, J0, R0) a0 L40 C40 I40 J40 R41 := by rw [eR41]; exact old.stR (Or.inr nq13)
  refine lv_iinc (v := 5) (lv' := [(1, .int 5), (0, .ref a0)]) hx hb dX10_init_158 hl (k := 0) rfl (by decide) (by decide) rfl (fun ls hl => ?_)
  refine lv_goto (tgt := 139) hx hb dX10_init_161 (by decide) ?_
  refine lv_iload_n hx hb dX10_init_139 rfl (lv_at hl 0 rfl) ?_
  refine lv_bipush (v := 20) hx hb dX10_init_140 (by decide) ?_
  refine lv_icmp_ge (tgt := 164) hx hb dX10_init_142 (by decide) (fun q => absurd q (by decide)) (fun q => ?_)
  refine lv_aload_n hx hb dX10_init_145 rfl (lv_at hl 1 rfl) ?_
  refine gf_10_4 (b := q13) (by rw [rra0]; rfl) hx hb hts hown hH ma0 ka0 rfl kf_X10_41 dX10_init_146 ?_
  refine lv_iload_n hx hb dX10_init_149 rfl (lv_at hl 0 rfl) ?_
  refine hNew (ci := 7) (N := 2) hx hb hts hown hH inX7 tyX7_ok rfl (by decide) rfl df_7 kcl_X10_39 kinst_X7 kini_X7 (by decide) (by decide) dX10_init_150 (fun q42 L42 C42 I42 J42 R42 H g42 eI42 eJ42 eR42 hH => ?_)
  have nq42 : q42 ∉ L0 := fun h => g42.2.2 (old q42 h).1
  have rra0 : R42 a0 = rl [(8, q24), (7, q21), (6, q18), (5, q15), (4, q13), (3, q10), (2, q7), (1, q4), (0, q1)] := by rw [eR42, va_up_ne _ _ (g42.ne ma0)]; exact rra0
  have ria0 : I42 a0 = il [] := by rw [eI42, va_up_ne _ _ (g42.ne ma0)]; exact ria0
  have ka0 := g42.role ma0 ka0
  have ma0 := g42.mem ma0
  have kq1 := g42.role mq1 kq1
  have mq1 := g42.mem mq1
  have kq4 := g42.role mq4 kq4
  have mq4 := g42.mem mq4
  have kq7 := g42.role mq7 kq7
  have mq7 := g42.mem mq7
  have kq10 := g42.role mq10 kq10
  have mq10 := g42.mem mq10
  have rrq13 : R42 q13 = rl [(4, q39), (3, q36), (2, q33), (1, q30), (0, q27)] := by rw [eR42, va_up_ne _ _ (g42.ne mq13)]; exact rrq13
  have riq13 : I42 q13 = il [] := by rw [eI42, va_up_ne _ _ (g42.ne mq13)]; exact riq13
  have kq13 := g42.role mq13 kq13
  have mq13 := g42.mem mq13
  have rrq15 : R42 q15 = rl [(1, q13), (0, q10), (6, z16_q7), (3, z16_q3), (2, z16_q1)] := by rw [eR42, va_up_ne _ _ (g42.ne mq15)]; exact rrq15
  have riq15 : I42 q15 = il [(5, 0), (4, 0)] := by rw [eI42, va_up_ne _ _ (g42.ne mq15)]; exact riq15
  have kq15 := g42.role mq15 kq15
  have mq15 := g42.mem mq15
  have kz16_q7 := g42.role mz16_q7 kz16_q7
  have mz16_q7 := g42.mem mz16_q7
  have kz16_q3 := g42.role mz16_q3 kz16_q3
  have mz16_q3 := g42.mem mz16_q3
  have kz16_q1 := g42.role mz16_q1 kz16_q1
  have mz16_q1 := g42.mem mz16_q1
  have n0q18 := g42.ne mq18
  have kq18 := g42.role mq18 kq18
  have mq18 := g42.mem mq18
  have kq21 := g42.role mq21 kq21
  have mq21 := g42.mem mq21
  have kq24 := g42.role mq24 kq24
  have mq24 := g42.mem mq24
  have kq27 := g42.role mq27 kq27
  have mq27 := g42.mem mq27
  have kq30 := g42.role mq30 kq30
  have mq30 := g42.mem mq30
  have kq33 := g42.role mq33 kq33
  have mq33 := g42.mem mq33
  have kq36 := g42.role mq36 kq36
  have mq36 := g42.mem mq36
  have kq39 := g42.role mq39 kq39
  have mq39 := g42.mem mq39
  have mq42 := g42.new
  have kq42 := g42.at
  have va_q18_2 : I42 q18 2 = 0 := by rw [eI42, va_up_ne _ _ n0q18]; exact va_q18_2
  have rrq42 : R42 q42 = rl [] := by rw [eR42, va_up_self]; rfl
  have riq42 : I42 q42 = il [] := by rw [eI42, va_up_self]; rfl
  have kk := kk.new g42 eI42 eR42 zz_23 zr_23 (Or.inl rfl) (by decide)
  have old := old.new g42 eI42 eJ42 eR42
  refine lv_dup hx hb dX10_init_153 rfl ?_
  refine afA (va_runI (As := []) (rest := [.ref q42, .int 5, .ref q13]) ⟨hx, hb, hml, hown, hts⟩ (c_X7_init kk mq42 kq42 riq42 rrq42) ⟨callB_of 0 hts (wG_code kc_yX7_init) rfl rfl rfl (hts _ kini_X7) (hts _ km_X10_77) ⟨by decide, by decide, by decide +kernel⟩ ⟨by decide, by decide⟩, rfl, hts _ ki_yX7_init⟩ (preS hH) rfl rfl hl.1 rfl (lv_room (Nat.le_of_ble_eq_true rfl)) dX10_init_154 ⟨by decide, by decide⟩) hH (fun L43 C43 I43 J43 R43 H locs hp hH => ?_)
  obtain ⟨kk, od43, kq43⟩ := hp
  have ne43 : a0 ≠ q42 := ne_role ka0 kq42 (by decide)
  have rra0 : R43 a0 = rl [(8, q24), (7, q21), (6, q18), (5, q15), (4, q13), (3, q10), (2, q7), (1, q4), (0, q1)] := ((od43 a0 ma0).2 ne43).2.2.2.trans rra0
  have ria0 : I43 a0 = il [] := ((od43 a0 ma0).2 ne43).2.1.trans ria0
  have ka0 : C43 a0 = 26 := ((od43 a0 ma0).2 ne43).1.trans ka0
  have ma0 := (od43 a0 ma0).1
  have ne43 : q1 ≠ q42 := ne_role kq1 kq42 (by decide)
  have kq1 : C43 q1 = 6 := ((od43 q1 mq1).2 ne43).1.trans kq1
  have mq1 := (od43 q1 mq1).1
  have ne43 : q4 ≠ q42 := ne_role kq4 kq42 (by decide)
  have kq4 : C43 q4 = 0 := ((od43 q4 mq4).2 ne43).1.trans kq4
  have mq4 := (od43 q4 mq4).1
  have ne43 : q7 ≠ q42 := ne_role kq7 kq42 (by decide)
  have kq7 : C43 q7 = 2 := ((od43 q7 mq7).2 ne43).1.trans kq7
  have mq7 := (od43 q7 mq7).1
  have ne43 : q10 ≠ q42 := ne_role kq10 kq42 (by decide)
  have kq10 : C43 q10 = 3 := ((od43 q10 mq10).2 ne43).1.trans kq10
  have mq10 := (od43 q10 mq10).1
  have ne43 : q13 ≠ q42 := ne_role kq13 kq42 (by decide)
  have rrq13 : R43 q13 = rl [(4, q39), (3, q36), (2, q33), (1, q30), (0, q27)] := ((od43 q13 mq13).2 ne43).2.2.2.trans rrq13
  have riq13 : I43 q13 = il [] := ((od43 q13 mq13).2 ne43).2.1.trans riq13
  have kq13 : C43 q13 = 60 := ((od43 q13 mq13).2 ne43).1.trans kq13
  have mq13 := (od43 q13 mq13).1
  have ne43 : q15 ≠ q42 := ne_role kq15 kq42 (by decide)
  have rrq15 : R43 q15 = rl [(1, q13), (0, q10), (6, z16_q7), (3, z16_q3), (2, z16_q1)] := ((od43 q15 mq15).2 ne43).2.2.2.trans rrq15
  have riq15 : I43 q15 = il [(5, 0), (4, 0)] := ((od43 q15 mq15).2 ne43).2.1.trans riq15
  have kq15 : C43 q15 = 25 := ((od43 q15 mq15).2 ne43).1.trans kq15
  have mq15 := (od43 q15 mq15).1
  have ne43 : z16_q7 ≠ q42 := ne_role kz16_q7 kq42 (by decide)
  have kz16_q7 : C43 z16_q7 = 47 := ((od43 z16_q7 mz16_q7).2 ne43).1.trans kz16_q7
  have mz16_q7 := (od43 z16_q7 mz16_q7).1
  have ne43 : z16_q3 ≠ q42 := ne_role kz16_q3 kq42 (by decide)
  have kz16_q3 : C43 z16_q3 = 46 := ((od43 z16_q3 mz16_q3).2 ne43).1.trans kz16_q3
  have mz16_q3 := (od43 z16_q3 mz16_q3).1
  have ne43 : z16_q1 ≠ q42 := ne_role kz16_q1 kq42 (by decide)
  have kz16_q1 : C43 z16_q1 = 45 := ((od43 z16_q1 mz16_q1).2 ne43).1.trans kz16_q1
  have mz16_q1 := (od43 z16_q1 mz16_q1).1
  have ne43 : q18 ≠ q42 := ne_role kq18 kq42 (by decide)
  have va_q18_2 : I43 q18 2 = 0 := (congrFun ((od43 q18 mq18).2 ne43).2.1 2).trans va_q18_2
  have kq18 : C43 q18 = 8 := ((od43 q18 mq18).2 ne43).1.trans kq18
  have mq18 := (od43 q18 mq18).1
  have ne43 : q21 ≠ q42 := ne_role kq21 kq42 (by decide)
  have kq21 : C43 q21 = 4 := ((od43 q21 mq21).2 ne43).1.trans kq21
  have mq21 := (od43 q21 mq21).1
  have ne43 : q24 ≠ q42 := ne_role kq24 kq42 (by decide)
  have kq24 : C43 q24 = 1 := ((od43 q24 mq24).2 ne43).1.trans kq24
  have mq24 := (od43 q24 mq24).1
  have ne43 : q27 ≠ q42 := ne_role kq27 kq42 (by decide)
  have kq27 : C43 q27 = 7 := ((od43 q27 mq27).2 ne43).1.trans kq27
  have mq27 := (od43 q27 mq27).1
  have ne43 : q30 ≠ q42 := ne_role kq30 kq42 (by decide)
  have kq30 : C43 q30 = 7 := ((od43 q30 mq30).2 ne43).1.trans kq30
  have mq30 := (od43 q30 mq30).1
  have ne43 : q33 ≠ q42 := ne_role kq33 kq42 (by decide)
  have kq33 : C43 q33 = 7 := ((od43 q33 mq33).2 ne43).1.trans kq33
  have mq33 := (od43 q33 mq33).1
  have ne43 : q36 ≠ q42 := ne_role kq36 kq42 (by decide)
  have kq36 : C43 q36 = 7 := ((od43 q36 mq36).2 ne43).1.trans kq36
  have mq36 := (od43 q36 mq36).1
  have ne43 : q39 ≠ q42 := ne_role kq39 kq42 (by decide)
  have kq39 : C43 q39 = 7 := ((od43 q39 mq39).2 ne43).1.trans kq39
  have mq39 := (od43 q39 mq39).1
  have kq42 : C43 q42 = 7 := kq43
  have mq42 := (od43 q42 mq42).1
  have old := old.ctor od43 nq42
  have kk : KK L43 C43 I43 R43 [0, 1, 2, 3, 4, 5, 6, 7, 8, 16, 17, 18, 19, 20, 21, 22, 23, 24, 25, 26, 32, 33, 34, 35, 36, 37, 38, 39, 40, 41, 42, 43, 44, 45, 46, 47, 48, 49, 50, 51, 52, 53, 54, 55, 56, 58, 59, 60] := kk.wS rfl
  refine st_60 hx hb hH mq13 kq13 (Rg_in (Rg_c (x := 5) (a := 5) (b := 5) (by decide)) (by decide)) mq42 kq42 rfl dX10_init_157 (fun R44 H locs eR44 hH => ?_)
  have rra0 : R44 a0 = rl [(8, q24), (7, q21), (6, q18), (5, q15), (4, q13), (3, q10), (2, q7), (1, q4), (0, q1)] := by rw [eR44, u2_ne (ne_role ka0 kq13 (by decide))]; exact rra0
  have rrq15 : R44 q15 = rl [(1, q13), (0, q10), (6, z16_q7), (3, z16_q3), (2, z16_q1)] := by rw [eR44, u2_ne (ne_role kq15 kq13 (by decide))]; exact rrq15
  have rrq13 : R44 q13 = rl [(5, q42), (4, q39), (3, q36), (2, q33), (1, q30), (0, q27)] := by rw [eR44]; exact rl_put rrq13
  have kk : KK L43 C43 I43 R44 [0, 1, 2, 3, 4, 5, 6, 7, 8, 16, 17, 18, 19, 20, 21, 22, 23, 24, 25, 26, 32, 33, 34, 35, 36, 37, 38, 39, 40, 41, 42, 43, 44, 45, 46, 47, 48, 49, 50, 51, 52, 53, 54, 55, 56, 58, 59, 60] := by rw [eR44]; exact kk.stR kq13 zr_60
  have old : Old L0 C0 (I0, J0, R0) a0 L43 C43 I43 J43 R44 := by rw [eR44]; exact old.stR (Or.inr nq13)
  refine lv_iinc (v := 6) (lv' := [(1, .int 6), (0, .ref a0)]) hx hb dX10_init_158 hl (k := 0) rfl (by decide) (by decide) rfl (fun ls hl => ?_)
  refine lv_goto (tgt := 139) hx hb dX10_init_161 (by decide) ?_
  refine lv_iload_n hx hb dX10_init_139 rfl (lv_at hl 0 rfl) ?_
  refine lv_bipush (v := 20) hx hb dX10_init_140 (by decide) ?_
  refine lv_icmp_ge (tgt := 164) hx hb dX10_init_142 (by decide) (fun q => absurd q (by decide)) (fun q => ?_)
  refine lv_aload_n hx hb dX10_init_145 rfl (lv_at hl 1 rfl) ?_
  refine gf_10_4 (b := q13) (by rw [rra0]; rfl) hx hb hts hown hH ma0 ka0 rfl kf_X10_41 dX10_init_146 ?_
  refine lv_iload_n hx hb dX10_init_149 rfl (lv_at hl 0 rfl) ?_
  refine hNew (ci := 7) (N := 2) hx hb hts hown hH inX7 tyX7_ok rfl (by decide) rfl df_7 kcl_X10_39 kinst_X7 kini_X7 (by decide) (by decide) dX10_init_150 (fun q45 L45 C45 I45 J45 R45 H g45 eI45 eJ45 eR45 hH => ?_)
  have nq45 : q45 ∉ L0 := fun h => g45.2.2 (old q45 h).1
  have rra0 : R45 a0 = rl [(8, q24), (7, q21), (6, q18), (5, q15), (4, q13), (3, q10), (2, q7), (1, q4), (0, q1)] := by rw [eR45, va_up_ne _ _ (g45.ne ma0)]; exact rra0
  have ria0 : I45 a0 = il [] := by rw [eI45, va_up_ne _ _ (g45.ne ma0)]; exact ria0
  have ka0 := g45.role ma0 ka0
  have ma0 := g45.mem ma0
  have kq1 := g45.role mq1 kq1
  have mq1 := g45.mem mq1
  have kq4 := g45.role mq4 kq4
  have mq4 := g45.mem mq4
  have kq7 := g45.role mq7 kq7
  have mq7 := g45.mem mq7
  have kq10 := g45.role mq10 kq10
  have mq10 := g45.mem mq10
  have rrq13 : R45 q13 = rl [(5, q42), (4, q39), (3, q36), (2, q33), (1, q30), (0, q27)] := by rw [eR45, va_up_ne _ _ (g45.ne mq13)]; exact rrq13
  have riq13 : I45 q13 = il [] := by rw [eI45, va_up_ne _ _ (g45.ne mq13)]; exact riq13
  have kq13 := g45.role mq13 kq13
  have mq13 := g45.mem mq13
  have rrq15 : R45 q15 = rl [(1, q13), (0, q10), (6, z16_q7), (3, z16_q3), (2, z16_q1)] := by rw [eR45, va_up_ne _ _ (g45.ne mq15)]; exact rrq15
  have riq15 : I45 q15 = il [(5, 0), (4, 0)] := by rw [eI45, va_up_ne _ _ (g45.ne mq15)]; exact riq15
  have kq15 := g45.role mq15 kq15
  have mq15 := g45.mem mq15
  have kz16_q7 := g45.role mz16_q7 kz16_q7
  have mz16_q7 := g45.mem mz16_q7
  have kz16_q3 := g45.role mz16_q3 kz16_q3
  have mz16_q3 := g45.mem mz16_q3
  have kz16_q1 := g45.role mz16_q1 kz16_q1
  have mz16_q1 := g45.mem mz16_q1
  have n0q18 := g45.ne mq18
  have kq18 := g45.role mq18 kq18
  have mq18 := g45.mem mq18
  have kq21 := g45.role mq21 kq21
  have mq21 := g45.mem mq21
  have kq24 := g45.role mq24 kq24
  have mq24 := g45.mem mq24
  have kq27 := g45.role mq27 kq27
  have mq27 := g45.mem mq27
  have kq30 := g45.role mq30 kq30
  have mq30 := g45.mem mq30
  have kq33 := g45.role mq33 kq33
  have mq33 := g45.mem mq33
  have kq36 := g45.role mq36 kq36
  have mq36 := g45.mem mq36
  have kq39 := g45.role mq39 kq39
  have mq39 := g45.mem mq39
  have kq42 := g45.role mq42 kq42
  have mq42 := g45.mem mq42
  have mq45 := g45.new
  have kq45 := g45.at
  have va_q18_2 : I45 q18 2 = 0 := by rw [eI45, va_up_ne _ _ n0q18]; exact va_q18_2
  have rrq45 : R45 q45 = rl [] := by rw [eR45, va_up_self]; rfl
  have riq45 : I45 q45 = il [] := by rw [eI45, va_up_self]; rfl
  have kk := kk.new g45 eI45 eR45 zz_23 zr_23 (Or.inl rfl) (by decide)
  have old := old.new g45 eI45 eJ45 eR45
  refine lv_dup hx hb dX10_init_153 rfl ?_
  refine afA (va_runI (As := []) (rest := [.ref q45, .int 6, .ref q13]) ⟨hx, hb, hml, hown, hts⟩ (c_X7_init kk mq45 kq45 riq45 rrq45) ⟨callB_of 0 hts (wG_code kc_yX7_init) rfl rfl rfl (hts _ kini_X7) (hts _ km_X10_77) ⟨by decide, by decide, by decide +kernel⟩ ⟨by decide, by decide⟩, rfl, hts _ ki_yX7_init⟩ (preS hH) rfl rfl hl.1 rfl (lv_room (Nat.le_of_ble_eq_true rfl)) dX10_init_154 ⟨by decide, by decide⟩) hH (fun L46 C46 I46 J46 R46 H locs hp hH => ?_)
  obtain ⟨kk, od46, kq46⟩ := hp
  have ne46 : a0 ≠ q45 := ne_role ka0 kq45 (by decide)
  have rra0 : R46 a0 = rl [(8, q24), (7, q21), (6, q18), (5, q15), (4, q13), (3, q10), (2, q7), (1, q4), (0, q1)] := ((od46 a0 ma0).2 ne46).2.2.2.trans rra0
  have ria0 : I46 a0 = il [] := ((od46 a0 ma0).2 ne46).2.1.trans ria0
  have ka0 : C46 a0 = 26 := ((od46 a0 ma0).2 ne46).1.trans ka0
  have ma0 := (od46 a0 ma0).1
  have ne46 : q1 ≠ q45 := ne_role kq1 kq45 (by decide)
  have kq1 : C46 q1 = 6 := ((od46 q1 mq1).2 ne46).1.trans kq1
  have mq1 := (od46 q1 mq1).1
  have ne46 : q4 ≠ q45 := ne_role kq4 kq45 (by decide)
  have kq4 : C46 q4 = 0 := ((od46 q4 mq4).2 ne46).1.trans kq4
  have mq4 := (od46 q4 mq4).1
  have ne46 : q7 ≠ q45 := ne_role kq7 kq45 (by decide)
  have kq7 : C46 q7 = 2 := ((od46 q7 mq7).2 ne46).1.trans kq7
  have mq7 := (od46 q7 mq7).1
  have ne46 : q10 ≠ q45 := ne_role kq10 kq45 (by decide)
  have kq10 : C46 q10 = 3 := ((od46 q10 mq10).2 ne46).1.trans kq10
  have mq10 := (od46 q10 mq10).1
  have ne46 : q13 ≠ q45 := ne_role kq13 kq45 (by decide)
  have rrq13 : R46 q13 = rl [(5, q42), (4, q39), (3, q36), (2, q33), (1, q30), (0, q27)] := ((od46 q13 mq13).2 ne46).2.2.2.trans rrq13
  have riq13 : I46 q13 = il [] := ((od46 q13 mq13).2 ne46).2.1.trans riq13
  have kq13 : C46 q13 = 60 := ((od46 q13 mq13).2 ne46).1.trans kq13
  have mq13 := (od46 q13 mq13).1
  have ne46 : q15 ≠ q45 := ne_role kq15 kq45 (by decide)
  have rrq15 : R46 q15 = rl [(1, q13), (0, q10), (6, z16_q7), (3, z16_q3), (2, z16_q1)] := ((od46 q15 mq15).2 ne46).2.2.2.trans rrq15
  have riq15 : I46 q15 = il [(5, 0), (4, 0)] := ((od46 q15 mq15).2 ne46).2.1.trans riq15
  have kq15 : C46 q15 = 25 := ((od46 q15 mq15).2 ne46).1.trans kq15
  have mq15 := (od46 q15 mq15).1
  have ne46 : z16_q7 ≠ q45 := ne_role kz16_q7 kq45 (by decide)
  have kz16_q7 : C46 z16_q7 = 47 := ((od46 z16_q7 mz16_q7).2 ne46).1.trans kz16_q7
  have mz16_q7 := (od46 z16_q7 mz16_q7).1
  have ne46 : z16_q3 ≠ q45 := ne_role kz16_q3 kq45 (by decide)
  have kz16_q3 : C46 z16_q3 = 46 := ((od46 z16_q3 mz16_q3).2 ne46).1.trans kz16_q3
  have mz16_q3 := (od46 z16_q3 mz16_q3).1
  have ne46 : z16_q1 ≠ q45 := ne_role kz16_q1 kq45 (by decide)
  have kz16_q1 : C46 z16_q1 = 45 := ((od46 z16_q1 mz16_q1).2 ne46).1.trans kz16_q1
  have mz16_q1 := (od46 z16_q1 mz16_q1).1
  have ne46 : q18 ≠ q45 := ne_role kq18 kq45 (by decide)
  have va_q18_2 : I46 q18 2 = 0 := (congrFun ((od46 q18 mq18).2 ne46).2.1 2).trans va_q18_2
  have kq18 : C46 q18 = 8 := ((od46 q18 mq18).2 ne46).1.trans kq18
  have mq18 := (od46 q18 mq18).1
  have ne46 : q21 ≠ q45 := ne_role kq21 kq45 (by decide)
  have kq21 : C46 q21 = 4 := ((od46 q21 mq21).2 ne46).1.trans kq21
  have mq21 := (od46 q21 mq21).1
  have ne46 : q24 ≠ q45 := ne_role kq24 kq45 (by decide)
  have kq24 : C46 q24 = 1 := ((od46 q24 mq24).2 ne46).1.trans kq24
  have mq24 := (od46 q24 mq24).1
  have ne46 : q27 ≠ q45 := ne_role kq27 kq45 (by decide)
  have kq27 : C46 q27 = 7 := ((od46 q27 mq27).2 ne46).1.trans kq27
  have mq27 := (od46 q27 mq27).1
  have ne46 : q30 ≠ q45 := ne_role kq30 kq45 (by decide)
  have kq30 : C46 q30 = 7 := ((od46 q30 mq30).2 ne46).1.trans kq30
  have mq30 := (od46 q30 mq30).1
  have ne46 : q33 ≠ q45 := ne_role kq33 kq45 (by decide)
  have kq33 : C46 q33 = 7 := ((od46 q33 mq33).2 ne46).1.trans kq33
  have mq33 := (od46 q33 mq33).1
  have ne46 : q36 ≠ q45 := ne_role kq36 kq45 (by decide)
  have kq36 : C46 q36 = 7 := ((od46 q36 mq36).2 ne46).1.trans kq36
  have mq36 := (od46 q36 mq36).1
  have ne46 : q39 ≠ q45 := ne_role kq39 kq45 (by decide)
  have kq39 : C46 q39 = 7 := ((od46 q39 mq39).2 ne46).1.trans kq39
  have mq39 := (od46 q39 mq39).1
  have ne46 : q42 ≠ q45 := ne_role kq42 kq45 (by decide)
  have kq42 : C46 q42 = 7 := ((od46 q42 mq42).2 ne46).1.trans kq42
  have mq42 := (od46 q42 mq42).1
  have kq45 : C46 q45 = 7 := kq46
  have mq45 := (od46 q45 mq45).1
  have old := old.ctor od46 nq45
  have kk : KK L46 C46 I46 R46 [0, 1, 2, 3, 4, 5, 6, 7, 8, 16, 17, 18, 19, 20, 21, 22, 23, 24, 25, 26, 32, 33, 34, 35, 36, 37, 38, 39, 40, 41, 42, 43, 44, 45, 46, 47, 48, 49, 50, 51, 52, 53, 54, 55, 56, 58, 59, 60] := kk.wS rfl
  refine st_60 hx hb hH mq13 kq13 (Rg_in (Rg_c (x := 6) (a := 6) (b := 6) (by decide)) (by decide)) mq45 kq45 rfl dX10_init_157 (fun R47 H locs eR47 hH => ?_)
  have rra0 : R47 a0 = rl [(8, q24), (7, q21), (6, q18), (5, q15), (4, q13), (3, q10), (2, q7), (1, q4), (0, q1)] := by rw [eR47, u2_ne (ne_role ka0 kq13 (by decide))]; exact rra0
  have rrq15 : R47 q15 = rl [(1, q13), (0, q10), (6, z16_q7), (3, z16_q3), (2, z16_q1)] := by rw [eR47, u2_ne (ne_role kq15 kq13 (by decide))]; exact rrq15
  have rrq13 : R47 q13 = rl [(6, q45), (5, q42), (4, q39), (3, q36), (2, q33), (1, q30), (0, q27)] := by rw [eR47]; exact rl_put rrq13
  have kk : KK L46 C46 I46 R47 [0, 1, 2, 3, 4, 5, 6, 7, 8, 16, 17, 18, 19, 20, 21, 22, 23, 24, 25, 26, 32, 33, 34, 35, 36, 37, 38, 39, 40, 41, 42, 43, 44, 45, 46, 47, 48, 49, 50, 51, 52, 53, 54, 55, 56, 58, 59, 60] := by rw [eR47]; exact kk.stR kq13 zr_60
  have old : Old L0 C0 (I0, J0, R0) a0 L46 C46 I46 J46 R47 := by rw [eR47]; exact old.stR (Or.inr nq13)
  refine lv_iinc (v := 7) (lv' := [(1, .int 7), (0, .ref a0)]) hx hb dX10_init_158 hl (k := 0) rfl (by decide) (by decide) rfl (fun ls hl => ?_)
  refine lv_goto (tgt := 139) hx hb dX10_init_161 (by decide) ?_
  refine lv_iload_n hx hb dX10_init_139 rfl (lv_at hl 0 rfl) ?_
  refine lv_bipush (v := 20) hx hb dX10_init_140 (by decide) ?_
  refine lv_icmp_ge (tgt := 164) hx hb dX10_init_142 (by decide) (fun q => absurd q (by decide)) (fun q => ?_)
  refine lv_aload_n hx hb dX10_init_145 rfl (lv_at hl 1 rfl) ?_
  refine gf_10_4 (b := q13) (by rw [rra0]; rfl) hx hb hts hown hH ma0 ka0 rfl kf_X10_41 dX10_init_146 ?_
  refine lv_iload_n hx hb dX10_init_149 rfl (lv_at hl 0 rfl) ?_
  refine hNew (ci := 7) (N := 2) hx hb hts hown hH inX7 tyX7_ok rfl (by decide) rfl df_7 kcl_X10_39 kinst_X7 kini_X7 (by decide) (by decide) dX10_init_150 (fun q48 L48 C48 I48 J48 R48 H g48 eI48 eJ48 eR48 hH => ?_)
  have nq48 : q48 ∉ L0 := fun h => g48.2.2 (old q48 h).1
  have rra0 : R48 a0 = rl [(8, q24), (7, q21), (6, q18), (5, q15), (4, q13), (3, q10), (2, q7), (1, q4), (0, q1)] := by rw [eR48, va_up_ne _ _ (g48.ne ma0)]; exact rra0
  have ria0 : I48 a0 = il [] := by rw [eI48, va_up_ne _ _ (g48.ne ma0)]; exact ria0
  have ka0 := g48.role ma0 ka0
  have ma0 := g48.mem ma0
  have kq1 := g48.role mq1 kq1
  have mq1 := g48.mem mq1
  have kq4 := g48.role mq4 kq4
  have mq4 := g48.mem mq4
  have kq7 := g48.role mq7 kq7
  have mq7 := g48.mem mq7
  have kq10 := g48.role mq10 kq10
  have mq10 := g48.mem mq10
  have rrq13 : R48 q13 = rl [(6, q45), (5, q42), (4, q39), (3, q36), (2, q33), (1, q30), (0, q27)] := by rw [eR48, va_up_ne _ _ (g48.ne mq13)]; exact rrq13
  have riq13 : I48 q13 = il [] := by rw [eI48, va_up_ne _ _ (g48.ne mq13)]; exact riq13
  have kq13 := g48.role mq13 kq13
  have mq13 := g48.mem mq13
  have rrq15 : R48 q15 = rl [(1, q13), (0, q10), (6, z16_q7), (3, z16_q3), (2, z16_q1)] := by rw [eR48, va_up_ne _ _ (g48.ne mq15)]; exact rrq15
  have riq15 : I48 q15 = il [(5, 0), (4, 0)] := by rw [eI48, va_up_ne _ _ (g48.ne mq15)]; exact riq15
  have kq15 := g48.role mq15 kq15
  have mq15 := g48.mem mq15
  have kz16_q7 := g48.role mz16_q7 kz16_q7
  have mz16_q7 := g48.mem mz16_q7
  have kz16_q3 := g48.role mz16_q3 kz16_q3
  have mz16_q3 := g48.mem mz16_q3
  have kz16_q1 := g48.role mz16_q1 kz16_q1
  have mz16_q1 := g48.mem mz16_q1
  have n0q18 := g48.ne mq18
  have kq18 := g48.role mq18 kq18
  have mq18 := g48.mem mq18
  have kq21 := g48.role mq21 kq21
  have mq21 := g48.mem mq21
  have kq24 := g48.role mq24 kq24
  have mq24 := g48.mem mq24
  have kq27 := g48.role mq27 kq27
  have mq27 := g48.mem mq27
  have kq30 := g48.role mq30 kq30
  have mq30 := g48.mem mq30
  have kq33 := g48.role mq33 kq33
  have mq33 := g48.mem mq33
  have kq36 := g48.role mq36 kq36
  have mq36 := g48.mem mq36
  have kq39 := g48.role mq39 kq39
  have mq39 := g48.mem mq39
  have kq42 := g48.role mq42 kq42
  have mq42 := g48.mem mq42
  have kq45 := g48.role mq45 kq45
  have mq45 := g48.mem mq45
  have mq48 := g48.new
  have kq48 := g48.at
  have va_q18_2 : I48 q18 2 = 0 := by rw [eI48, va_up_ne _ _ n0q18]; exact va_q18_2
  have rrq48 : R48 q48 = rl [] := by rw [eR48, va_up_self]; rfl
  have riq48 : I48 q48 = il [] := by rw [eI48, va_up_self]; rfl
  have kk := kk.new g48 eI48 eR48 zz_23 zr_23 (Or.inl rfl) (by decide)
  have old := old.new g48 eI48 eJ48 eR48
  refine lv_dup hx hb dX10_init_153 rfl ?_
  refine afA (va_runI (As := []) (rest := [.ref q48, .int 7, .ref q13]) ⟨hx, hb, hml, hown, hts⟩ (c_X7_init kk mq48 kq48 riq48 rrq48) ⟨callB_of 0 hts (wG_code kc_yX7_init) rfl rfl rfl (hts _ kini_X7) (hts _ km_X10_77) ⟨by decide, by decide, by decide +kernel⟩ ⟨by decide, by decide⟩, rfl, hts _ ki_yX7_init⟩ (preS hH) rfl rfl hl.1 rfl (lv_room (Nat.le_of_ble_eq_true rfl)) dX10_init_154 ⟨by decide, by decide⟩) hH (fun L49 C49 I49 J49 R49 H locs hp hH => ?_)
  obtain ⟨kk, od49, kq49⟩ := hp
  have ne49 : a0 ≠ q48 := ne_role ka0 kq48 (by decide)
  have rra0 : R49 a0 = rl [(8, q24), (7, q21), (6, q18), (5, q15), (4, q13), (3, q10), (2, q7), (1, q4), (0, q1)] := ((od49 a0 ma0).2 ne49).2.2.2.trans rra0
  have ria0 : I49 a0 = il [] := ((od49 a0 ma0).2 ne49).2.1.trans ria0
  have ka0 : C49 a0 = 26 := ((od49 a0 ma0).2 ne49).1.trans ka0
  have ma0 := (od49 a0 ma0).1
  have ne49 : q1 ≠ q48 := ne_role kq1 kq48 (by decide)
  have kq1 : C49 q1 = 6 := ((od49 q1 mq1).2 ne49).1.trans kq1
  have mq1 := (od49 q1 mq1).1
  have ne49 : q4 ≠ q48 := ne_role kq4 kq48 (by decide)
  have kq4 : C49 q4 = 0 := ((od49 q4 mq4).2 ne49).1.trans kq4
  have mq4 := (od49 q4 mq4).1
  have ne49 : q7 ≠ q48 := ne_role kq7 kq48 (by decide)
  have kq7 : C49 q7 = 2 := ((od49 q7 mq7).2 ne49).1.trans kq7
  have mq7 := (od49 q7 mq7).1
  have ne49 : q10 ≠ q48 := ne_role kq10 kq48 (by decide)
  have kq10 : C49 q10 = 3 := ((od49 q10 mq10).2 ne49).1.trans kq10
  have mq10 := (od49 q10 mq10).1
  have ne49 : q13 ≠ q48 := ne_role kq13 kq48 (by decide)
  have rrq13 : R49 q13 = rl [(6, q45), (5, q42), (4, q39), (3, q36), (2, q33), (1, q30), (0, q27)] := ((od49 q13 mq13).2 ne49).2.2.2.trans rrq13
  have riq13 : I49 q13 = il [] := ((od49 q13 mq13).2 ne49).2.1.trans riq13
  have kq13 : C49 q13 = 60 := ((od49 q13 mq13).2 ne49).1.trans kq13
  have mq13 := (od49 q13 mq13).1
  have ne49 : q15 ≠ q48 := ne_role kq15 kq48 (by decide)
  have rrq15 : R49 q15 = rl [(1, q13), (0, q10), (6, z16_q7), (3, z16_q3), (2, z16_q1)] := ((od49 q15 mq15).2 ne49).2.2.2.trans rrq15
  have riq15 : I49 q15 = il [(5, 0), (4, 0)] := ((od49 q15 mq15).2 ne49).2.1.trans riq15
  have kq15 : C49 q15 = 25 := ((od49 q15 mq15).2 ne49).1.trans kq15
  have mq15 := (od49 q15 mq15).1
  have ne49 : z16_q7 ≠ q48 := ne_role kz16_q7 kq48 (by decide)
  have kz16_q7 : C49 z16_q7 = 47 := ((od49 z16_q7 mz16_q7).2 ne49).1.trans kz16_q7
  have mz16_q7 := (od49 z16_q7 mz16_q7).1
  have ne49 : z16_q3 ≠ q48 := ne_role kz16_q3 kq48 (by decide)
  have kz16_q3 : C49 z16_q3 = 46 := ((od49 z16_q3 mz16_q3).2 ne49).1.trans kz16_q3
  have mz16_q3 := (od49 z16_q3 mz16_q3).1
  have ne49 : z16_q1 ≠ q48 := ne_role kz16_q1 kq48 (by decide)
  have kz16_q1 : C49 z16_q1 = 45 := ((od49 z16_q1 mz16_q1).2 ne49).1.trans kz16_q1
  have mz16_q1 := (od49 z16_q1 mz16_q1).1
  have ne49 : q18 ≠ q48 := ne_role kq18 kq48 (by decide)
  have va_q18_2 : I49 q18 2 = 0 := (congrFun ((od49 q18 mq18).2 ne49).2.1 2).trans va_q18_2
  have kq18 : C49 q18 = 8 := ((od49 q18 mq18).2 ne49).1.trans kq18
  have mq18 := (od49 q18 mq18).1
  have ne49 : q21 ≠ q48 := ne_role kq21 kq48 (by decide)
  have kq21 : C49 q21 = 4 := ((od49 q21 mq21).2 ne49).1.trans kq21
  have mq21 := (od49 q21 mq21).1
  have ne49 : q24 ≠ q48 := ne_role kq24 kq48 (by decide)
  have kq24 : C49 q24 = 1 := ((od49 q24 mq24).2 ne49).1.trans kq24
  have mq24 := (od49 q24 mq24).1
  have ne49 : q27 ≠ q48 := ne_role kq27 kq48 (by decide)
  have kq27 : C49 q27 = 7 := ((od49 q27 mq27).2 ne49).1.trans kq27
  have mq27 := (od49 q27 mq27).1
  have ne49 : q30 ≠ q48 := ne_role kq30 kq48 (by decide)
  have kq30 : C49 q30 = 7 := ((od49 q30 mq30).2 ne49).1.trans kq30
  have mq30 := (od49 q30 mq30).1
  have ne49 : q33 ≠ q48 := ne_role kq33 kq48 (by decide)
  have kq33 : C49 q33 = 7 := ((od49 q33 mq33).2 ne49).1.trans kq33
  have mq33 := (od49 q33 mq33).1
  have ne49 : q36 ≠ q48 := ne_role kq36 kq48 (by decide)
  have kq36 : C49 q36 = 7 := ((od49 q36 mq36).2 ne49).1.trans kq36
  have mq36 := (od49 q36 mq36).1
  have ne49 : q39 ≠ q48 := ne_role kq39 kq48 (by decide)
  have kq39 : C49 q39 = 7 := ((od49 q39 mq39).2 ne49).1.trans kq39
  have mq39 := (od49 q39 mq39).1
  have ne49 : q42 ≠ q48 := ne_role kq42 kq48 (by decide)
  have kq42 : C49 q42 = 7 := ((od49 q42 mq42).2 ne49).1.trans kq42
  have mq42 := (od49 q42 mq42).1
  have ne49 : q45 ≠ q48 := ne_role kq45 kq48 (by decide)
  have kq45 : C49 q45 = 7 := ((od49 q45 mq45).2 ne49).1.trans kq45
  have mq45 := (od49 q45 mq45).1
  have kq48 : C49 q48 = 7 := kq49
  have mq48 := (od49 q48 mq48).1
  have old := old.ctor od49 nq48
  have kk : KK L49 C49 I49 R49 [0, 1, 2, 3, 4, 5, 6, 7, 8, 16, 17, 18, 19, 20, 21, 22, 23, 24, 25, 26, 32, 33, 34, 35, 36, 37, 38, 39, 40, 41, 42, 43, 44, 45, 46, 47, 48, 49, 50, 51, 52, 53, 54, 55, 56, 58, 59, 60] := kk.wS rfl
  refine st_60 hx hb hH mq13 kq13 (Rg_in (Rg_c (x := 7) (a := 7) (b := 7) (by decide)) (by decide)) mq48 kq48 rfl dX10_init_157 (fun R50 H locs eR50 hH => ?_)
  have rra0 : R50 a0 = rl [(8, q24), (7, q21), (6, q18), (5, q15), (4, q13), (3, q10), (2, q7), (1, q4), (0, q1)] := by rw [eR50, u2_ne (ne_role ka0 kq13 (by decide))]; exact rra0
  have rrq15 : R50 q15 = rl [(1, q13), (0, q10), (6, z16_q7), (3, z16_q3), (2, z16_q1)] := by rw [eR50, u2_ne (ne_role kq15 kq13 (by decide))]; exact rrq15
  have rrq13 : R50 q13 = rl [(7, q48), (6, q45), (5, q42), (4, q39), (3, q36), (2, q33), (1, q30), (0, q27)] := by rw [eR50]; exact rl_put rrq13
  have kk : KK L49 C49 I49 R50 [0, 1, 2, 3, 4, 5, 6, 7, 8, 16, 17, 18, 19, 20, 21, 22, 23, 24, 25, 26, 32, 33, 34, 35, 36, 37, 38, 39, 40, 41, 42, 43, 44, 45, 46, 47, 48, 49, 50, 51, 52, 53, 54, 55, 56, 58, 59, 60] := by rw [eR50]; exact kk.stR kq13 zr_60
  have old : Old L0 C0 (I0, J0, R0) a0 L49 C49 I49 J49 R50 := by rw [eR50]; exact old.stR (Or.inr nq13)
  refine lv_iinc (v := 8) (lv' := [(1, .int 8), (0, .ref a0)]) hx hb dX10_init_158 hl (k := 0) rfl (by decide) (by decide) rfl (fun ls hl => ?_)
  refine lv_goto (tgt := 139) hx hb dX10_init_161 (by decide) ?_
  refine lv_iload_n hx hb dX10_init_139 rfl (lv_at hl 0 rfl) ?_
  refine lv_bipush (v := 20) hx hb dX10_init_140 (by decide) ?_
  refine lv_icmp_ge (tgt := 164) hx hb dX10_init_142 (by decide) (fun q => absurd q (by decide)) (fun q => ?_)
  refine lv_aload_n hx hb dX10_init_145 rfl (lv_at hl 1 rfl) ?_
  refine gf_10_4 (b := q13) (by rw [rra0]; rfl) hx hb hts hown hH ma0 ka0 rfl kf_X10_41 dX10_init_146 ?_
  refine lv_iload_n hx hb dX10_init_149 rfl (lv_at hl 0 rfl) ?_
  refine hNew (ci := 7) (N := 2) hx hb hts hown hH inX7 tyX7_ok rfl (by decide) rfl df_7 kcl_X10_39 kinst_X7 kini_X7 (by decide) (by decide) dX10_init_150 (fun q51 L51 C51 I51 J51 R51 H g51 eI51 eJ51 eR51 hH => ?_)
  have nq51 : q51 ∉ L0 := fun h => g51.2.2 (old q51 h).1
  have rra0 : R51 a0 = rl [(8, q24), (7, q21), (6, q18), (5, q15), (4, q13), (3, q10), (2, q7), (1, q4), (0, q1)] := by rw [eR51, va_up_ne _ _ (g51.ne ma0)]; exact rra0
  have ria0 : I51 a0 = il [] := by rw [eI51, va_up_ne _ _ (g51.ne ma0)]; exact ria0
  have ka0 := g51.role ma0 ka0
  have ma0 := g51.mem ma0
  have kq1 := g51.role mq1 kq1
  have mq1 := g51.mem mq1
  have kq4 := g51.role mq4 kq4
  have mq4 := g51.mem mq4
  have kq7 := g51.role mq7 kq7
  have mq7 := g51.mem mq7
  have kq10 := g51.role mq10 kq10
  have mq10 := g51.mem mq10
  have rrq13 : R51 q13 = rl [(7, q48), (6, q45), (5, q42), (4, q39), (3, q36), (2, q33), (1, q30), (0, q27)] := by rw [eR51, va_up_ne _ _ (g51.ne mq13)]; exact rrq13
  have riq13 : I51 q13 = il [] := by rw [eI51, va_up_ne _ _ (g51.ne mq13)]; exact riq13
  have kq13 := g51.role mq13 kq13
  have mq13 := g51.mem mq13
  have rrq15 : R51 q15 = rl [(1, q13), (0, q10), (6, z16_q7), (3, z16_q3), (2, z16_q1)] := by rw [eR51, va_up_ne _ _ (g51.ne mq15)]; exact rrq15
  have riq15 : I51 q15 = il [(5, 0), (4, 0)] := by rw [eI51, va_up_ne _ _ (g51.ne mq15)]; exact riq15
  have kq15 := g51.role mq15 kq15
  have mq15 := g51.mem mq15
  have kz16_q7 := g51.role mz16_q7 kz16_q7
  have mz16_q7 := g51.mem mz16_q7
  have kz16_q3 := g51.role mz16_q3 kz16_q3
  have mz16_q3 := g51.mem mz16_q3
  have kz16_q1 := g51.role mz16_q1 kz16_q1
  have mz16_q1 := g51.mem mz16_q1
  have n0q18 := g51.ne mq18
  have kq18 := g51.role mq18 kq18
  have mq18 := g51.mem mq18
  have kq21 := g51.role mq21 kq21
  have mq21 := g51.mem mq21
  have kq24 := g51.role mq24 kq24
  have mq24 := g51.mem mq24
  have kq27 := g51.role mq27 kq27
  have mq27 := g51.mem mq27
  have kq30 := g51.role mq30 kq30
  have mq30 := g51.mem mq30
  have kq33 := g51.role mq33 kq33
  have mq33 := g51.mem mq33
  have kq36 := g51.role mq36 kq36
  have mq36 := g51.mem mq36
  have kq39 := g51.role mq39 kq39
  have mq39 := g51.mem mq39
  have kq42 := g51.role mq42 kq42
  have mq42 := g51.mem mq42
  have kq45 := g51.role mq45 kq45
  have mq45 := g51.mem mq45
  have kq48 := g51.role mq48 kq48
  have mq48 := g51.mem mq48
  have mq51 := g51.new
  have kq51 := g51.at
  have va_q18_2 : I51 q18 2 = 0 := by rw [eI51, va_up_ne _ _ n0q18]; exact va_q18_2
  have rrq51 : R51 q51 = rl [] := by rw [eR51, va_up_self]; rfl
  have riq51 : I51 q51 = il [] := by rw [eI51, va_up_self]; rfl
  have kk := kk.new g51 eI51 eR51 zz_23 zr_23 (Or.inl rfl) (by decide)
  have old := old.new g51 eI51 eJ51 eR51
  refine lv_dup hx hb dX10_init_153 rfl ?_
  refine afA (va_runI (As := []) (rest := [.ref q51, .int 8, .ref q13]) ⟨hx, hb, hml, hown, hts⟩ (c_X7_init kk mq51 kq51 riq51 rrq51) ⟨callB_of 0 hts (wG_code kc_yX7_init) rfl rfl rfl (hts _ kini_X7) (hts _ km_X10_77) ⟨by decide, by decide, by decide +kernel⟩ ⟨by decide, by decide⟩, rfl, hts _ ki_yX7_init⟩ (preS hH) rfl rfl hl.1 rfl (lv_room (Nat.le_of_ble_eq_true rfl)) dX10_init_154 ⟨by decide, by decide⟩) hH (fun L52 C52 I52 J52 R52 H locs hp hH => ?_)
  obtain ⟨kk, od52, kq52⟩ := hp
  have ne52 : a0 ≠ q51 := ne_role ka0 kq51 (by decide)
  have rra0 : R52 a0 = rl [(8, q24), (7, q21), (6, q18), (5, q15), (4, q13), (3, q10), (2, q7), (1, q4), (0, q1)] := ((od52 a0 ma0).2 ne52).2.2.2.trans rra0
  have ria0 : I52 a0 = il [] := ((od52 a0 ma0).2 ne52).2.1.trans ria0
  have ka0 : C52 a0 = 26 := ((od52 a0 ma0).2 ne52).1.trans ka0
  have ma0 := (od52 a0 ma0).1
  have ne52 : q1 ≠ q51 := ne_role kq1 kq51 (by decide)
  have kq1 : C52 q1 = 6 := ((od52 q1 mq1).2 ne52).1.trans kq1
  have mq1 := (od52 q1 mq1).1
  have ne52 : q4 ≠ q51 := ne_role kq4 kq51 (by decide)
  have kq4 : C52 q4 = 0 := ((od52 q4 mq4).2 ne52).1.trans kq4
  have mq4 := (od52 q4 mq4).1
  have ne52 : q7 ≠ q51 := ne_role kq7 kq51 (by decide)
  have kq7 : C52 q7 = 2 := ((od52 q7 mq7).2 ne52).1.trans kq7
  have mq7 := (od52 q7 mq7).1
  have ne52 : q10 ≠ q51 := ne_role kq10 kq51 (by decide)
  have kq10 : C52 q10 = 3 := ((od52 q10 mq10).2 ne52).1.trans kq10
  have mq10 := (od52 q10 mq10).1
  have ne52 : q13 ≠ q51 := ne_role kq13 kq51 (by decide)
  have rrq13 : R52 q13 = rl [(7, q48), (6, q45), (5, q42), (4, q39), (3, q36), (2, q33), (1, q30), (0, q27)] := ((od52 q13 mq13).2 ne52).2.2.2.trans rrq13
  have riq13 : I52 q13 = il [] := ((od52 q13 mq13).2 ne52).2.1.trans riq13
  have kq13 : C52 q13 = 60 := ((od52 q13 mq13).2 ne52).1.trans kq13
  have mq13 := (od52 q13 mq13).1
  have ne52 : q15 ≠ q51 := ne_role kq15 kq51 (by decide)
  have rrq15 : R52 q15 = rl [(1, q13), (0, q10), (6, z16_q7), (3, z16_q3), (2, z16_q1)] := ((od52 q15 mq15).2 ne52).2.2.2.trans rrq15
  have riq15 : I52 q15 = il [(5, 0), (4, 0)] := ((od52 q15 mq15).2 ne52).2.1.trans riq15
  have kq15 : C52 q15 = 25 := ((od52 q15 mq15).2 ne52).1.trans kq15
  have mq15 := (od52 q15 mq15).1
  have ne52 : z16_q7 ≠ q51 := ne_role kz16_q7 kq51 (by decide)
  have kz16_q7 : C52 z16_q7 = 47 := ((od52 z16_q7 mz16_q7).2 ne52).1.trans kz16_q7
  have mz16_q7 := (od52 z16_q7 mz16_q7).1
  have ne52 : z16_q3 ≠ q51 := ne_role kz16_q3 kq51 (by decide)
  have kz16_q3 : C52 z16_q3 = 46 := ((od52 z16_q3 mz16_q3).2 ne52).1.trans kz16_q3
  have mz16_q3 := (od52 z16_q3 mz16_q3).1
  have ne52 : z16_q1 ≠ q51 := ne_role kz16_q1 kq51 (by decide)
  have kz16_q1 : C52 z16_q1 = 45 := ((od52 z16_q1 mz16_q1).2 ne52).1.trans kz16_q1
  have mz16_q1 := (od52 z16_q1 mz16_q1).1
  have ne52 : q18 ≠ q51 := ne_role kq18 kq51 (by decide)
  have va_q18_2 : I52 q18 2 = 0 := (congrFun ((od52 q18 mq18).2 ne52).2.1 2).trans va_q18_2
  have kq18 : C52 q18 = 8 := ((od52 q18 mq18).2 ne52).1.trans kq18
  have mq18 := (od52 q18 mq18).1
  have ne52 : q21 ≠ q51 := ne_role kq21 kq51 (by decide)
  have kq21 : C52 q21 = 4 := ((od52 q21 mq21).2 ne52).1.trans kq21
  have mq21 := (od52 q21 mq21).1
  have ne52 : q24 ≠ q51 := ne_role kq24 kq51 (by decide)
  have kq24 : C52 q24 = 1 := ((od52 q24 mq24).2 ne52).1.trans kq24
  have mq24 := (od52 q24 mq24).1
  have ne52 : q27 ≠ q51 := ne_role kq27 kq51 (by decide)
  have kq27 : C52 q27 = 7 := ((od52 q27 mq27).2 ne52).1.trans kq27
  have mq27 := (od52 q27 mq27).1
  have ne52 : q30 ≠ q51 := ne_role kq30 kq51 (by decide)
  have kq30 : C52 q30 = 7 := ((od52 q30 mq30).2 ne52).1.trans kq30
  have mq30 := (od52 q30 mq30).1
  have ne52 : q33 ≠ q51 := ne_role kq33 kq51 (by decide)
  have kq33 : C52 q33 = 7 := ((od52 q33 mq33).2 ne52).1.trans kq33
  have mq33 := (od52 q33 mq33).1
  have ne52 : q36 ≠ q51 := ne_role kq36 kq51 (by decide)
  have kq36 : C52 q36 = 7 := ((od52 q36 mq36).2 ne52).1.trans kq36
  have mq36 := (od52 q36 mq36).1
  have ne52 : q39 ≠ q51 := ne_role kq39 kq51 (by decide)
  have kq39 : C52 q39 = 7 := ((od52 q39 mq39).2 ne52).1.trans kq39
  have mq39 := (od52 q39 mq39).1
  have ne52 : q42 ≠ q51 := ne_role kq42 kq51 (by decide)
  have kq42 : C52 q42 = 7 := ((od52 q42 mq42).2 ne52).1.trans kq42
  have mq42 := (od52 q42 mq42).1
  have ne52 : q45 ≠ q51 := ne_role kq45 kq51 (by decide)
  have kq45 : C52 q45 = 7 := ((od52 q45 mq45).2 ne52).1.trans kq45
  have mq45 := (od52 q45 mq45).1
  have ne52 : q48 ≠ q51 := ne_role kq48 kq51 (by decide)
  have kq48 : C52 q48 = 7 := ((od52 q48 mq48).2 ne52).1.trans kq48
  have mq48 := (od52 q48 mq48).1
  have kq51 : C52 q51 = 7 := kq52
  have mq51 := (od52 q51 mq51).1
  have old := old.ctor od52 nq51
  have kk : KK L52 C52 I52 R52 [0, 1, 2, 3, 4, 5, 6, 7, 8, 16, 17, 18, 19, 20, 21, 22, 23, 24, 25, 26, 32, 33, 34, 35, 36, 37, 38, 39, 40, 41, 42, 43, 44, 45, 46, 47, 48, 49, 50, 51, 52, 53, 54, 55, 56, 58, 59, 60] := kk.wS rfl
  refine st_60 hx hb hH mq13 kq13 (Rg_in (Rg_c (x := 8) (a := 8) (b := 8) (by decide)) (by decide)) mq51 kq51 rfl dX10_init_157 (fun R53 H locs eR53 hH => ?_)
  have rra0 : R53 a0 = rl [(8, q24), (7, q21), (6, q18), (5, q15), (4, q13), (3, q10), (2, q7), (1, q4), (0, q1)] := by rw [eR53, u2_ne (ne_role ka0 kq13 (by decide))]; exact rra0
  have rrq15 : R53 q15 = rl [(1, q13), (0, q10), (6, z16_q7), (3, z16_q3), (2, z16_q1)] := by rw [eR53, u2_ne (ne_role kq15 kq13 (by decide))]; exact rrq15
  have rrq13 : R53 q13 = rl [(8, q51), (7, q48), (6, q45), (5, q42), (4, q39), (3, q36), (2, q33), (1, q30), (0, q27)] := by rw [eR53]; exact rl_put rrq13
  have kk : KK L52 C52 I52 R53 [0, 1, 2, 3, 4, 5, 6, 7, 8, 16, 17, 18, 19, 20, 21, 22, 23, 24, 25, 26, 32, 33, 34, 35, 36, 37, 38, 39, 40, 41, 42, 43, 44, 45, 46, 47, 48, 49, 50, 51, 52, 53, 54, 55, 56, 58, 59, 60] := by rw [eR53]; exact kk.stR kq13 zr_60
  have old : Old L0 C0 (I0, J0, R0) a0 L52 C52 I52 J52 R53 := by rw [eR53]; exact old.stR (Or.inr nq13)
  refine lv_iinc (v := 9) (lv' := [(1, .int 9), (0, .ref a0)]) hx hb dX10_init_158 hl (k := 0) rfl (by decide) (by decide) rfl (fun ls hl => ?_)
  refine lv_goto (tgt := 139) hx hb dX10_init_161 (by decide) ?_
  refine lv_iload_n hx hb dX10_init_139 rfl (lv_at hl 0 rfl) ?_
  refine lv_bipush (v := 20) hx hb dX10_init_140 (by decide) ?_
  refine lv_icmp_ge (tgt := 164) hx hb dX10_init_142 (by decide) (fun q => absurd q (by decide)) (fun q => ?_)
  refine lv_aload_n hx hb dX10_init_145 rfl (lv_at hl 1 rfl) ?_
  refine gf_10_4 (b := q13) (by rw [rra0]; rfl) hx hb hts hown hH ma0 ka0 rfl kf_X10_41 dX10_init_146 ?_
  refine lv_iload_n hx hb dX10_init_149 rfl (lv_at hl 0 rfl) ?_
  refine hNew (ci := 7) (N := 2) hx hb hts hown hH inX7 tyX7_ok rfl (by decide) rfl df_7 kcl_X10_39 kinst_X7 kini_X7 (by decide) (by decide) dX10_init_150 (fun q54 L54 C54 I54 J54 R54 H g54 eI54 eJ54 eR54 hH => ?_)
  have nq54 : q54 ∉ L0 := fun h => g54.2.2 (old q54 h).1
  have rra0 : R54 a0 = rl [(8, q24), (7, q21), (6, q18), (5, q15), (4, q13), (3, q10), (2, q7), (1, q4), (0, q1)] := by rw [eR54, va_up_ne _ _ (g54.ne ma0)]; exact rra0
  have ria0 : I54 a0 = il [] := by rw [eI54, va_up_ne _ _ (g54.ne ma0)]; exact ria0
  have ka0 := g54.role ma0 ka0
  have ma0 := g54.mem ma0
  have kq1 := g54.role mq1 kq1
  have mq1 := g54.mem mq1
  have kq4 := g54.role mq4 kq4
  have mq4 := g54.mem mq4
  have kq7 := g54.role mq7 kq7
  have mq7 := g54.mem mq7
  have kq10 := g54.role mq10 kq10
  have mq10 := g54.mem mq10
  have rrq13 : R54 q13 = rl [(8, q51), (7, q48), (6, q45), (5, q42), (4, q39), (3, q36), (2, q33), (1, q30), (0, q27)] := by rw [eR54, va_up_ne _ _ (g54.ne mq13)]; exact rrq13
  have riq13 : I54 q13 = il [] := by rw [eI54, va_up_ne _ _ (g54.ne mq13)]; exact riq13
  have kq13 := g54.role mq13 kq13
  have mq13 := g54.mem mq13
  have rrq15 : R54 q15 = rl [(1, q13), (0, q10), (6, z16_q7), (3, z16_q3), (2, z16_q1)] := by rw [eR54, va_up_ne _ _ (g54.ne mq15)]; exact rrq15
  have riq15 : I54 q15 = il [(5, 0), (4, 0)] := by rw [eI54, va_up_ne _ _ (g54.ne mq15)]; exact riq15
  have kq15 := g54.role mq15 kq15
  have mq15 := g54.mem mq15
  have kz16_q7 := g54.role mz16_q7 kz16_q7
  have mz16_q7 := g54.mem mz16_q7
  have kz16_q3 := g54.role mz16_q3 kz16_q3
  have mz16_q3 := g54.mem mz16_q3
  have kz16_q1 := g54.role mz16_q1 kz16_q1
  have mz16_q1 := g54.mem mz16_q1
  have n0q18 := g54.ne mq18
  have kq18 := g54.role mq18 kq18
  have mq18 := g54.mem mq18
  have kq21 := g54.role mq21 kq21
  have mq21 := g54.mem mq21
  have kq24 := g54.role mq24 kq24
  have mq24 := g54.mem mq24
  have kq27 := g54.role mq27 kq27
  have mq27 := g54.mem mq27
  have kq30 := g54.role mq30 kq30
  have mq30 := g54.mem mq30
  have kq33 := g54.role mq33 kq33
  have mq33 := g54.mem mq33
  have kq36 := g54.role mq36 kq36
  have mq36 := g54.mem mq36
  have kq39 := g54.role mq39 kq39
  have mq39 := g54.mem mq39
  have kq42 := g54.role mq42 kq42
  have mq42 := g54.mem mq42
  have kq45 := g54.role mq45 kq45
  have mq45 := g54.mem mq45
  have kq48 := g54.role mq48 kq48
  have mq48 := g54.mem mq48
  have kq51 := g54.role mq51 kq51
  have mq51 := g54.mem mq51
  have mq54 := g54.new
  have kq54 := g54.at
  have va_q18_2 : I54 q18 2 = 0 := by rw [eI54, va_up_ne _ _ n0q18]; exact va_q18_2
  have rrq54 : R54 q54 = rl [] := by rw [eR54, va_up_self]; rfl
  have riq54 : I54 q54 = il [] := by rw [eI54, va_up_self]; rfl
  have kk := kk.new g54 eI54 eR54 zz_23 zr_23 (Or.inl rfl) (by decide)
  have old := old.new g54 eI54 eJ54 eR54
  refine lv_dup hx hb dX10_init_153 rfl ?_
  refine afA (va_runI (As := []) (rest := [.ref q54, .int 9, .ref q13]) ⟨hx, hb, hml, hown, hts⟩ (c_X7_init kk mq54 kq54 riq54 rrq54) ⟨callB_of 0 hts (wG_code kc_yX7_init) rfl rfl rfl (hts _ kini_X7) (hts _ km_X10_77) ⟨by decide, by decide, by decide +kernel⟩ ⟨by decide, by decide⟩, rfl, hts _ ki_yX7_init⟩ (preS hH) rfl rfl hl.1 rfl (lv_room (Nat.le_of_ble_eq_true rfl)) dX10_init_154 ⟨by decide, by decide⟩) hH (fun L55 C55 I55 J55 R55 H locs hp hH => ?_)
  obtain ⟨kk, od55, kq55⟩ := hp
  have ne55 : a0 ≠ q54 := ne_role ka0 kq54 (by decide)
  have rra0 : R55 a0 = rl [(8, q24), (7, q21), (6, q18), (5, q15), (4, q13), (3, q10), (2, q7), (1, q4), (0, q1)] := ((od55 a0 ma0).2 ne55).2.2.2.trans rra0
  have ria0 : I55 a0 = il [] := ((od55 a0 ma0).2 ne55).2.1.trans ria0
  have ka0 : C55 a0 = 26 := ((od55 a0 ma0).2 ne55).1.trans ka0
  have ma0 := (od55 a0 ma0).1
  have ne55 : q1 ≠ q54 := ne_role kq1 kq54 (by decide)
  have kq1 : C55 q1 = 6 := ((od55 q1 mq1).2 ne55).1.trans kq1
  have mq1 := (od55 q1 mq1).1
  have ne55 : q4 ≠ q54 := ne_role kq4 kq54 (by decide)
  have kq4 : C55 q4 = 0 := ((od55 q4 mq4).2 ne55).1.trans kq4
  have mq4 := (od55 q4 mq4).1
  have ne55 : q7 ≠ q54 := ne_role kq7 kq54 (by decide)
  have kq7 : C55 q7 = 2 := ((od55 q7 mq7).2 ne55).1.trans kq7
  have mq7 := (od55 q7 mq7).1
  have ne55 : q10 ≠ q54 := ne_role kq10 kq54 (by decide)
  have kq10 : C55 q10 = 3 := ((od55 q10 mq10).2 ne55).1.trans kq10
  have mq10 := (od55 q10 mq10).1
  have ne55 : q13 ≠ q54 := ne_role kq13 kq54 (by decide)
  have rrq13 : R55 q13 = rl [(8, q51), (7, q48), (6, q45), (5, q42), (4, q39), (3, q36), (2, q33), (1, q30), (0, q27)] := ((od55 q13 mq13).2 ne55).2.2.2.trans rrq13
  have riq13 : I55 q13 = il [] := ((od55 q13 mq13).2 ne55).2.1.trans riq13
  have kq13 : C55 q13 = 60 := ((od55 q13 mq13).2 ne55).1.trans kq13
  have mq13 := (od55 q13 mq13).1
  have ne55 : q15 ≠ q54 := ne_role kq15 kq54 (by decide)
  have rrq15 : R55 q15 = rl [(1, q13), (0, q10), (6, z16_q7), (3, z16_q3), (2, z16_q1)] := ((od55 q15 mq15).2 ne55).2.2.2.trans rrq15
  have riq15 : I55 q15 = il [(5, 0), (4, 0)] := ((od55 q15 mq15).2 ne55).2.1.trans riq15
  have kq15 : C55 q15 = 25 := ((od55 q15 mq15).2 ne55).1.trans kq15
  have mq15 := (od55 q15 mq15).1
  have ne55 : z16_q7 ≠ q54 := ne_role kz16_q7 kq54 (by decide)
  have kz16_q7 : C55 z16_q7 = 47 := ((od55 z16_q7 mz16_q7).2 ne55).1.trans kz16_q7
  have mz16_q7 := (od55 z16_q7 mz16_q7).1
  have ne55 : z16_q3 ≠ q54 := ne_role kz16_q3 kq54 (by decide)
  have kz16_q3 : C55 z16_q3 = 46 := ((od55 z16_q3 mz16_q3).2 ne55).1.trans kz16_q3
  have mz16_q3 := (od55 z16_q3 mz16_q3).1
  have ne55 : z16_q1 ≠ q54 := ne_role kz16_q1 kq54 (by decide)
  have kz16_q1 : C55 z16_q1 = 45 := ((od55 z16_q1 mz16_q1).2 ne55).1.trans kz16_q1
  have mz16_q1 := (od55 z16_q1 mz16_q1).1
  have ne55 : q18 ≠ q54 := ne_role kq18 kq54 (by decide)
  have va_q18_2 : I55 q18 2 = 0 := (congrFun ((od55 q18 mq18).2 ne55).2.1 2).trans va_q18_2
  have kq18 : C55 q18 = 8 := ((od55 q18 mq18).2 ne55).1.trans kq18
  have mq18 := (od55 q18 mq18).1
  have ne55 : q21 ≠ q54 := ne_role kq21 kq54 (by decide)
  have kq21 : C55 q21 = 4 := ((od55 q21 mq21).2 ne55).1.trans kq21
  have mq21 := (od55 q21 mq21).1
  have ne55 : q24 ≠ q54 := ne_role kq24 kq54 (by decide)
  have kq24 : C55 q24 = 1 := ((od55 q24 mq24).2 ne55).1.trans kq24
  have mq24 := (od55 q24 mq24).1
  have ne55 : q27 ≠ q54 := ne_role kq27 kq54 (by decide)
  have kq27 : C55 q27 = 7 := ((od55 q27 mq27).2 ne55).1.trans kq27
  have mq27 := (od55 q27 mq27).1
  have ne55 : q30 ≠ q54 := ne_role kq30 kq54 (by decide)
  have kq30 : C55 q30 = 7 := ((od55 q30 mq30).2 ne55).1.trans kq30
  have mq30 := (od55 q30 mq30).1
  have ne55 : q33 ≠ q54 := ne_role kq33 kq54 (by decide)
  have kq33 : C55 q33 = 7 := ((od55 q33 mq33).2 ne55).1.trans kq33
  have mq33 := (od55 q33 mq33).1
  have ne55 : q36 ≠ q54 := ne_role kq36 kq54 (by decide)
  have kq36 : C55 q36 = 7 := ((od55 q36 mq36).2 ne55).1.trans kq36
  have mq36 := (od55 q36 mq36).1
  have ne55 : q39 ≠ q54 := ne_role kq39 kq54 (by decide)
  have kq39 : C55 q39 = 7 := ((od55 q39 mq39).2 ne55).1.trans kq39
  have mq39 := (od55 q39 mq39).1
  have ne55 : q42 ≠ q54 := ne_role kq42 kq54 (by decide)
  have kq42 : C55 q42 = 7 := ((od55 q42 mq42).2 ne55).1.trans kq42
  have mq42 := (od55 q42 mq42).1
  have ne55 : q45 ≠ q54 := ne_role kq45 kq54 (by decide)
  have kq45 : C55 q45 = 7 := ((od55 q45 mq45).2 ne55).1.trans kq45
  have mq45 := (od55 q45 mq45).1
  have ne55 : q48 ≠ q54 := ne_role kq48 kq54 (by decide)
  have kq48 : C55 q48 = 7 := ((od55 q48 mq48).2 ne55).1.trans kq48
  have mq48 := (od55 q48 mq48).1
  have ne55 : q51 ≠ q54 := ne_role kq51 kq54 (by decide)
  have kq51 : C55 q51 = 7 := ((od55 q51 mq51).2 ne55).1.trans kq51
  have mq51 := (od55 q51 mq51).1
  have kq54 : C55 q54 = 7 := kq55
  have mq54 := (od55 q54 mq54).1
  have old := old.ctor od55 nq54
  have kk : KK L55 C55 I55 R55 [0, 1, 2, 3, 4, 5, 6, 7, 8, 16, 17, 18, 19, 20, 21, 22, 23, 24, 25, 26, 32, 33, 34, 35, 36, 37, 38, 39, 40, 41, 42, 43, 44, 45, 46, 47, 48, 49, 50, 51, 52, 53, 54, 55, 56, 58, 59, 60] := kk.wS rfl
  refine st_60 hx hb hH mq13 kq13 (Rg_in (Rg_c (x := 9) (a := 9) (b := 9) (by decide)) (by decide)) mq54 kq54 rfl dX10_init_157 (fun R56 H locs eR56 hH => ?_)
  have rra0 : R56 a0 = rl [(8, q24), (7, q21), (6, q18), (5, q15), (4, q13), (3, q10), (2, q7), (1, q4), (0, q1)] := by rw [eR56, u2_ne (ne_role ka0 kq13 (by decide))]; exact rra0
  have rrq15 : R56 q15 = rl [(1, q13), (0, q10), (6, z16_q7), (3, z16_q3), (2, z16_q1)] := by rw [eR56, u2_ne (ne_role kq15 kq13 (by decide))]; exact rrq15
  have rrq13 : R56 q13 = rl [(9, q54), (8, q51), (7, q48), (6, q45), (5, q42), (4, q39), (3, q36), (2, q33), (1, q30), (0, q27)] := by rw [eR56]; exact rl_put rrq13
  have kk : KK L55 C55 I55 R56 [0, 1, 2, 3, 4, 5, 6, 7, 8, 16, 17, 18, 19, 20, 21, 22, 23, 24, 25, 26, 32, 33, 34, 35, 36, 37, 38, 39, 40, 41, 42, 43, 44, 45, 46, 47, 48, 49, 50, 51, 52, 53, 54, 55, 56, 58, 59, 60] := by rw [eR56]; exact kk.stR kq13 zr_60
  have old : Old L0 C0 (I0, J0, R0) a0 L55 C55 I55 J55 R56 := by rw [eR56]; exact old.stR (Or.inr nq13)
  refine lv_iinc (v := 10) (lv' := [(1, .int 10), (0, .ref a0)]) hx hb dX10_init_158 hl (k := 0) rfl (by decide) (by decide) rfl (fun ls hl => ?_)
  refine lv_goto (tgt := 139) hx hb dX10_init_161 (by decide) ?_
  refine lv_iload_n hx hb dX10_init_139 rfl (lv_at hl 0 rfl) ?_
  refine lv_bipush (v := 20) hx hb dX10_init_140 (by decide) ?_
  refine lv_icmp_ge (tgt := 164) hx hb dX10_init_142 (by decide) (fun q => absurd q (by decide)) (fun q => ?_)
  refine lv_aload_n hx hb dX10_init_145 rfl (lv_at hl 1 rfl) ?_
  refine gf_10_4 (b := q13) (by rw [rra0]; rfl) hx hb hts hown hH ma0 ka0 rfl kf_X10_41 dX10_init_146 ?_
  refine lv_iload_n hx hb dX10_init_149 rfl (lv_at hl 0 rfl) ?_
  refine hNew (ci := 7) (N := 2) hx hb hts hown hH inX7 tyX7_ok rfl (by decide) rfl df_7 kcl_X10_39 kinst_X7 kini_X7 (by decide) (by decide) dX10_init_150 (fun q57 L57 C57 I57 J57 R57 H g57 eI57 eJ57 eR57 hH => ?_)
  have nq57 : q57 ∉ L0 := fun h => g57.2.2 (old q57 h).1
  have rra0 : R57 a0 = rl [(8, q24), (7, q21), (6, q18), (5, q15), (4, q13), (3, q10), (2, q7), (1, q4), (0, q1)] := by rw [eR57, va_up_ne _ _ (g57.ne ma0)]; exact rra0
  have ria0 : I57 a0 = il [] := by rw [eI57, va_up_ne _ _ (g57.ne ma0)]; exact ria0
  have ka0 := g57.role ma0 ka0
  have ma0 := g57.mem ma0
  have kq1 := g57.role mq1 kq1
  have mq1 := g57.mem mq1
  have kq4 := g57.role mq4 kq4
  have mq4 := g57.mem mq4
  have kq7 := g57.role mq7 kq7
  have mq7 := g57.mem mq7
  have kq10 := g57.role mq10 kq10
  have mq10 := g57.mem mq10
  have rrq13 : R57 q13 = rl [(9, q54), (8, q51), (7, q48), (6, q45), (5, q42), (4, q39), (3, q36), (2, q33), (1, q30), (0, q27)] := by rw [eR57, va_up_ne _ _ (g57.ne mq13)]; exact rrq13
  have riq13 : I57 q13 = il [] := by rw [eI57, va_up_ne _ _ (g57.ne mq13)]; exact riq13
  have kq13 := g57.role mq13 kq13
  have mq13 := g57.mem mq13
  have rrq15 : R57 q15 = rl [(1, q13), (0, q10), (6, z16_q7), (3, z16_q3), (2, z16_q1)] := by rw [eR57, va_up_ne _ _ (g57.ne mq15)]; exact rrq15
  have riq15 : I57 q15 = il [(5, 0), (4, 0)] := by rw [eI57, va_up_ne _ _ (g57.ne mq15)]; exact riq15
  have kq15 := g57.role mq15 kq15
  have mq15 := g57.mem mq15
  have kz16_q7 := g57.role mz16_q7 kz16_q7
  have mz16_q7 := g57.mem mz16_q7
  have kz16_q3 := g57.role mz16_q3 kz16_q3
  have mz16_q3 := g57.mem mz16_q3
  have kz16_q1 := g57.role mz16_q1 kz16_q1
  have mz16_q1 := g57.mem mz16_q1
  have n0q18 := g57.ne mq18
  have kq18 := g57.role mq18 kq18
  have mq18 := g57.mem mq18
  have kq21 := g57.role mq21 kq21
  have mq21 := g57.mem mq21
  have kq24 := g57.role mq24 kq24
  have mq24 := g57.mem mq24
  have kq27 := g57.role mq27 kq27
  have mq27 := g57.mem mq27
  have kq30 := g57.role mq30 kq30
  have mq30 := g57.mem mq30
  have kq33 := g57.role mq33 kq33
  have mq33 := g57.mem mq33
  have kq36 := g57.role mq36 kq36
  have mq36 := g57.mem mq36
  have kq39 := g57.role mq39 kq39
  have mq39 := g57.mem mq39
  have kq42 := g57.role mq42 kq42
  have mq42 := g57.mem mq42
  have kq45 := g57.role mq45 kq45
  have mq45 := g57.mem mq45
  have kq48 := g57.role mq48 kq48
  have mq48 := g57.mem mq48
  have kq51 := g57.role mq51 kq51
  have mq51 := g57.mem mq51
  have kq54 := g57.role mq54 kq54
  have mq54 := g57.mem mq54
  have mq57 := g57.new
  have kq57 := g57.at
  have va_q18_2 : I57 q18 2 = 0 := by rw [eI57, va_up_ne _ _ n0q18]; exact va_q18_2
  have rrq57 : R57 q57 = rl [] := by rw [eR57, va_up_self]; rfl
  have riq57 : I57 q57 = il [] := by rw [eI57, va_up_self]; rfl
  have kk := kk.new g57 eI57 eR57 zz_23 zr_23 (Or.inl rfl) (by decide)
  have old := old.new g57 eI57 eJ57 eR57
  refine lv_dup hx hb dX10_init_153 rfl ?_
  refine afA (va_runI (As := []) (rest := [.ref q57, .int 10, .ref q13]) ⟨hx, hb, hml, hown, hts⟩ (c_X7_init kk mq57 kq57 riq57 rrq57) ⟨callB_of 0 hts (wG_code kc_yX7_init) rfl rfl rfl (hts _ kini_X7) (hts _ km_X10_77) ⟨by decide, by decide, by decide +kernel⟩ ⟨by decide, by decide⟩, rfl, hts _ ki_yX7_init⟩ (preS hH) rfl rfl hl.1 rfl (lv_room (Nat.le_of_ble_eq_true rfl)) dX10_init_154 ⟨by decide, by decide⟩) hH (fun L58 C58 I58 J58 R58 H locs hp hH => ?_)
  obtain ⟨kk, od58, kq58⟩ := hp
  have ne58 : a0 ≠ q57 := ne_role ka0 kq57 (by decide)
  have rra0 : R58 a0 = rl [(8, q24), (7, q21), (6, q18), (5, q15), (4, q13), (3, q10), (2, q7), (1, q4), (0, q1)] := ((od58 a0 ma0).2 ne58).2.2.2.trans rra0
  have ria0 : I58 a0 = il [] := ((od58 a0 ma0).2 ne58).2.1.trans ria0
  have ka0 : C58 a0 = 26 := ((od58 a0 ma0).2 ne58).1.trans ka0
  have ma0 := (od58 a0 ma0).1
  have ne58 : q1 ≠ q57 := ne_role kq1 kq57 (by decide)
  have kq1 : C58 q1 = 6 := ((od58 q1 mq1).2 ne58).1.trans kq1
  have mq1 := (od58 q1 mq1).1
  have ne58 : q4 ≠ q57 := ne_role kq4 kq57 (by decide)
  have kq4 : C58 q4 = 0 := ((od58 q4 mq4).2 ne58).1.trans kq4
  have mq4 := (od58 q4 mq4).1
  have ne58 : q7 ≠ q57 := ne_role kq7 kq57 (by decide)
  have kq7 : C58 q7 = 2 := ((od58 q7 mq7).2 ne58).1.trans kq7
  have mq7 := (od58 q7 mq7).1
  have ne58 : q10 ≠ q57 := ne_role kq10 kq57 (by decide)
  have kq10 : C58 q10 = 3 := ((od58 q10 mq10).2 ne58).1.trans kq10
  have mq10 := (od58 q10 mq10).1
  have ne58 : q13 ≠ q57 := ne_role kq13 kq57 (by decide)
  have rrq13 : R58 q13 = rl [(9, q54), (8, q51), (7, q48), (6, q45), (5, q42), (4, q39), (3, q36), (2, q33), (1, q30), (0, q27)] := ((od58 q13 mq13).2 ne58).2.2.2.trans rrq13
  have riq13 : I58 q13 = il [] := ((od58 q13 mq13).2 ne58).2.1.trans riq13
  have kq13 : C58 q13 = 60 := ((od58 q13 mq13).2 ne58).1.trans kq13
  have mq13 := (od58 q13 mq13).1
  have ne58 : q15 ≠ q57 := ne_role kq15 kq57 (by decide)
  have rrq15 : R58 q15 = rl [(1, q13), (0, q10), (6, z16_q7), (3, z16_q3), (2, z16_q1)] := ((od58 q15 mq15).2 ne58).2.2.2.trans rrq15
  have riq15 : I58 q15 = il [(5, 0), (4, 0)] := ((od58 q15 mq15).2 ne58).2.1.trans riq15
  have kq15 : C58 q15 = 25 := ((od58 q15 mq15).2 ne58).1.trans kq15
  have mq15 := (od58 q15 mq15).1
  have ne58 : z16_q7 ≠ q57 := ne_role kz16_q7 kq57 (by decide)
  have kz16_q7 : C58 z16_q7 = 47 := ((od58 z16_q7 mz16_q7).2 ne58).1.trans kz16_q7
  have mz16_q7 := (od58 z16_q7 mz16_q7).1
  have ne58 : z16_q3 ≠ q57 := ne_role kz16_q3 kq57 (by decide)
  have kz16_q3 : C58 z16_q3 = 46 := ((od58 z16_q3 mz16_q3).2 ne58).1.trans kz16_q3
  have mz16_q3 := (od58 z16_q3 mz16_q3).1
  have ne58 : z16_q1 ≠ q57 := ne_role kz16_q1 kq57 (by decide)
  have kz16_q1 : C58 z16_q1 = 45 := ((od58 z16_q1 mz16_q1).2 ne58).1.trans kz16_q1
  have mz16_q1 := (od58 z16_q1 mz16_q1).1
  have ne58 : q18 ≠ q57 := ne_role kq18 kq57 (by decide)
  have va_q18_2 : I58 q18 2 = 0 := (congrFun ((od58 q18 mq18).2 ne58).2.1 2).trans va_q18_2
  have kq18 : C58 q18 = 8 := ((od58 q18 mq18).2 ne58).1.trans kq18
  have mq18 := (od58 q18 mq18).1
  have ne58 : q21 ≠ q57 := ne_role kq21 kq57 (by decide)
  have kq21 : C58 q21 = 4 := ((od58 q21 mq21).2 ne58).1.trans kq21
  have mq21 := (od58 q21 mq21).1
  have ne58 : q24 ≠ q57 := ne_role kq24 kq57 (by decide)
  have kq24 : C58 q24 = 1 := ((od58 q24 mq24).2 ne58).1.trans kq24
  have mq24 := (od58 q24 mq24).1
  have ne58 : q27 ≠ q57 := ne_role kq27 kq57 (by decide)
  have kq27 : C58 q27 = 7 := ((od58 q27 mq27).2 ne58).1.trans kq27
  have mq27 := (od58 q27 mq27).1
  have ne58 : q30 ≠ q57 := ne_role kq30 kq57 (by decide)
  have kq30 : C58 q30 = 7 := ((od58 q30 mq30).2 ne58).1.trans kq30
  have mq30 := (od58 q30 mq30).1
  have ne58 : q33 ≠ q57 := ne_role kq33 kq57 (by decide)
  have kq33 : C58 q33 = 7 := ((od58 q33 mq33).2 ne58).1.trans kq33
  have mq33 := (od58 q33 mq33).1
  have ne58 : q36 ≠ q57 := ne_role kq36 kq57 (by decide)
  have kq36 : C58 q36 = 7 := ((od58 q36 mq36).2 ne58).1.trans kq36
  have mq36 := (od58 q36 mq36).1
  have ne58 : q39 ≠ q57 := ne_role kq39 kq57 (by decide)
  have kq39 : C58 q39 = 7 := ((od58 q39 mq39).2 ne58).1.trans kq39
  have mq39 := (od58 q39 mq39).1
  have ne58 : q42 ≠ q57 := ne_role kq42 kq57 (by decide)
  have kq42 : C58 q42 = 7 := ((od58 q42 mq42).2 ne58).1.trans kq42
  have mq42 := (od58 q42 mq42).1
  have ne58 : q45 ≠ q57 := ne_role kq45 kq57 (by decide)
  have kq45 : C58 q45 = 7 := ((od58 q45 mq45).2 ne58).1.trans kq45
  have mq45 := (od58 q45 mq45).1
  have ne58 : q48 ≠ q57 := ne_role kq48 kq57 (by decide)
  have kq48 : C58 q48 = 7 := ((od58 q48 mq48).2 ne58).1.trans kq48
  have mq48 := (od58 q48 mq48).1
  have ne58 : q51 ≠ q57 := ne_role kq51 kq57 (by decide)
  have kq51 : C58 q51 = 7 := ((od58 q51 mq51).2 ne58).1.trans kq51
  have mq51 := (od58 q51 mq51).1
  have ne58 : q54 ≠ q57 := ne_role kq54 kq57 (by decide)
  have kq54 : C58 q54 = 7 := ((od58 q54 mq54).2 ne58).1.trans kq54
  have mq54 := (od58 q54 mq54).1
  have kq57 : C58 q57 = 7 := kq58
  have mq57 := (od58 q57 mq57).1
  have old := old.ctor od58 nq57
  have kk : KK L58 C58 I58 R58 [0, 1, 2, 3, 4, 5, 6, 7, 8, 16, 17, 18, 19, 20, 21, 22, 23, 24, 25, 26, 32, 33, 34, 35, 36, 37, 38, 39, 40, 41, 42, 43, 44, 45, 46, 47, 48, 49, 50, 51, 52, 53, 54, 55, 56, 58, 59, 60] := kk.wS rfl
  refine st_60 hx hb hH mq13 kq13 (Rg_in (Rg_c (x := 10) (a := 10) (b := 10) (by decide)) (by decide)) mq57 kq57 rfl dX10_init_157 (fun R59 H locs eR59 hH => ?_)
  have rra0 : R59 a0 = rl [(8, q24), (7, q21), (6, q18), (5, q15), (4, q13), (3, q10), (2, q7), (1, q4), (0, q1)] := by rw [eR59, u2_ne (ne_role ka0 kq13 (by decide))]; exact rra0
  have rrq15 : R59 q15 = rl [(1, q13), (0, q10), (6, z16_q7), (3, z16_q3), (2, z16_q1)] := by rw [eR59, u2_ne (ne_role kq15 kq13 (by decide))]; exact rrq15
  have rrq13 : R59 q13 = rl [(10, q57), (9, q54), (8, q51), (7, q48), (6, q45), (5, q42), (4, q39), (3, q36), (2, q33), (1, q30), (0, q27)] := by rw [eR59]; exact rl_put rrq13
  have kk : KK L58 C58 I58 R59 [0, 1, 2, 3, 4, 5, 6, 7, 8, 16, 17, 18, 19, 20, 21, 22, 23, 24, 25, 26, 32, 33, 34, 35, 36, 37, 38, 39, 40, 41, 42, 43, 44, 45, 46, 47, 48, 49, 50, 51, 52, 53, 54, 55, 56, 58, 59, 60] := by rw [eR59]; exact kk.stR kq13 zr_60
  have old : Old L0 C0 (I0, J0, R0) a0 L58 C58 I58 J58 R59 := by rw [eR59]; exact old.stR (Or.inr nq13)
  refine lv_iinc (v := 11) (lv' := [(1, .int 11), (0, .ref a0)]) hx hb dX10_init_158 hl (k := 0) rfl (by decide) (by decide) rfl (fun ls hl => ?_)
  refine lv_goto (tgt := 139) hx hb dX10_init_161 (by decide) ?_
  refine lv_iload_n hx hb dX10_init_139 rfl (lv_at hl 0 rfl) ?_
  refine lv_bipush (v := 20) hx hb dX10_init_140 (by decide) ?_
  refine lv_icmp_ge (tgt := 164) hx hb dX10_init_142 (by decide) (fun q => absurd q (by decide)) (fun q => ?_)
  refine lv_aload_n hx hb dX10_init_145 rfl (lv_at hl 1 rfl) ?_
  refine gf_10_4 (b := q13) (by rw [rra0]; rfl) hx hb hts hown hH ma0 ka0 rfl kf_X10_41 dX10_init_146 ?_
  refine lv_iload_n hx hb dX10_init_149 rfl (lv_at hl 0 rfl) ?_
  refine hNew (ci := 7) (N := 2) hx hb hts hown hH inX7 tyX7_ok rfl (by decide) rfl df_7 kcl_X10_39 kinst_X7 kini_X7 (by decide) (by decide) dX10_init_150 (fun q60 L60 C60 I60 J60 R60 H g60 eI60 eJ60 eR60 hH => ?_)
  have nq60 : q60 ∉ L0 := fun h => g60.2.2 (old q60 h).1
  have rra0 : R60 a0 = rl [(8, q24), (7, q21), (6, q18), (5, q15), (4, q13), (3, q10), (2, q7), (1, q4), (0, q1)] := by rw [eR60, va_up_ne _ _ (g60.ne ma0)]; exact rra0
  have ria0 : I60 a0 = il [] := by rw [eI60, va_up_ne _ _ (g60.ne ma0)]; exact ria0
  have ka0 := g60.role ma0 ka0
  have ma0 := g60.mem ma0
  have kq1 := g60.role mq1 kq1
  have mq1 := g60.mem mq1
  have kq4 := g60.role mq4 kq4
  have mq4 := g60.mem mq4
  have kq7 := g60.role mq7 kq7
  have mq7 := g60.mem mq7
  have kq10 := g60.role mq10 kq10
  have mq10 := g60.mem mq10
  have rrq13 : R60 q13 = rl [(10, q57), (9, q54), (8, q51), (7, q48), (6, q45), (5, q42), (4, q39), (3, q36), (2, q33), (1, q30), (0, q27)] := by rw [eR60, va_up_ne _ _ (g60.ne mq13)]; exact rrq13
  have riq13 : I60 q13 = il [] := by rw [eI60, va_up_ne _ _ (g60.ne mq13)]; exact riq13
  have kq13 := g60.role mq13 kq13
  have mq13 := g60.mem mq13
  have rrq15 : R60 q15 = rl [(1, q13), (0, q10), (6, z16_q7), (3, z16_q3), (2, z16_q1)] := by rw [eR60, va_up_ne _ _ (g60.ne mq15)]; exact rrq15
  have riq15 : I60 q15 = il [(5, 0), (4, 0)] := by rw [eI60, va_up_ne _ _ (g60.ne mq15)]; exact riq15
  have kq15 := g60.role mq15 kq15
  have mq15 := g60.mem mq15
  have kz16_q7 := g60.role mz16_q7 kz16_q7
  have mz16_q7 := g60.mem mz16_q7
  have kz16_q3 := g60.role mz16_q3 kz16_q3
  have mz16_q3 := g60.mem mz16_q3
  have kz16_q1 := g60.role mz16_q1 kz16_q1
  have mz16_q1 := g60.mem mz16_q1
  have n0q18 := g60.ne mq18
  have kq18 := g60.role mq18 kq18
  have mq18 := g60.mem mq18
  have kq21 := g60.role mq21 kq21
  have mq21 := g60.mem mq21
  have kq24 := g60.role mq24 kq24
  have mq24 := g60.mem mq24
  have kq27 := g60.role mq27 kq27
  have mq27 := g60.mem mq27
  have kq30 := g60.role mq30 kq30
  have mq30 := g60.mem mq30
  have kq33 := g60.role mq33 kq33
  have mq33 := g60.mem mq33
  have kq36 := g60.role mq36 kq36
  have mq36 := g60.mem mq36
  have kq39 := g60.role mq39 kq39
  have mq39 := g60.mem mq39
  have kq42 := g60.role mq42 kq42
  have mq42 := g60.mem mq42
  have kq45 := g60.role mq45 kq45
  have mq45 := g60.mem mq45
  have kq48 := g60.role mq48 kq48
  have mq48 := g60.mem mq48
  have kq51 := g60.role mq51 kq51
  have mq51 := g60.mem mq51
  have kq54 := g60.role mq54 kq54
  have mq54 := g60.mem mq54
  have kq57 := g60.role mq57 kq57
  have mq57 := g60.mem mq57
  have mq60 := g60.new
  have kq60 := g60.at
  have va_q18_2 : I60 q18 2 = 0 := by rw [eI60, va_up_ne _ _ n0q18]; exact va_q18_2
  have rrq60 : R60 q60 = rl [] := by rw [eR60, va_up_self]; rfl
  have riq60 : I60 q60 = il [] := by rw [eI60, va_up_self]; rfl
  have kk := kk.new g60 eI60 eR60 zz_23 zr_23 (Or.inl rfl) (by decide)
  have old := old.new g60 eI60 eJ60 eR60
  refine lv_dup hx hb dX10_init_153 rfl ?_
  refine afA (va_runI (As := []) (rest := [.ref q60, .int 11, .ref q13]) ⟨hx, hb, hml, hown, hts⟩ (c_X7_init kk mq60 kq60 riq60 rrq60) ⟨callB_of 0 hts (wG_code kc_yX7_init) rfl rfl rfl (hts _ kini_X7) (hts _ km_X10_77) ⟨by decide, by decide, by decide +kernel⟩ ⟨by decide, by decide⟩, rfl, hts _ ki_yX7_init⟩ (preS hH) rfl rfl hl.1 rfl (lv_room (Nat.le_of_ble_eq_true rfl)) dX10_init_154 ⟨by decide, by decide⟩) hH (fun L61 C61 I61 J61 R61 H locs hp hH => ?_)
  obtain ⟨kk, od61, kq61⟩ := hp
  have ne61 : a0 ≠ q60 := ne_role ka0 kq60 (by decide)
  have rra0 : R61 a0 = rl [(8, q24), (7, q21), (6, q18), (5, q15), (4, q13), (3, q10), (2, q7), (1, q4), (0, q1)] := ((od61 a0 ma0).2 ne61).2.2.2.trans rra0
  have ria0 : I61 a0 = il [] := ((od61 a0 ma0).2 ne61).2.1.trans ria0
  have ka0 : C61 a0 = 26 := ((od61 a0 ma0).2 ne61).1.trans ka0
  have ma0 := (od61 a0 ma0).1
  have ne61 : q1 ≠ q60 := ne_role kq1 kq60 (by decide)
  have kq1 : C61 q1 = 6 := ((od61 q1 mq1).2 ne61).1.trans kq1
  have mq1 := (od61 q1 mq1).1
  have ne61 : q4 ≠ q60 := ne_role kq4 kq60 (by decide)
  have kq4 : C61 q4 = 0 := ((od61 q4 mq4).2 ne61).1.trans kq4
  have mq4 := (od61 q4 mq4).1
  have ne61 : q7 ≠ q60 := ne_role kq7 kq60 (by decide)
  have kq7 : C61 q7 = 2 := ((od61 q7 mq7).2 ne61).1.trans kq7
  have mq7 := (od61 q7 mq7).1
  have ne61 : q10 ≠ q60 := ne_role kq10 kq60 (by decide)
  have kq10 : C61 q10 = 3 := ((od61 q10 mq10).2 ne61).1.trans kq10
  have mq10 := (od61 q10 mq10).1
  have ne61 : q13 ≠ q60 := ne_role kq13 kq60 (by decide)
  have rrq13 : R61 q13 = rl [(10, q57), (9, q54), (8, q51), (7, q48), (6, q45), (5, q42), (4, q39), (3, q36), (2, q33), (1, q30), (0, q27)] := ((od61 q13 mq13).2 ne61).2.2.2.trans rrq13
  have riq13 : I61 q13 = il [] := ((od61 q13 mq13).2 ne61).2.1.trans riq13
  have kq13 : C61 q13 = 60 := ((od61 q13 mq13).2 ne61).1.trans kq13
  have mq13 := (od61 q13 mq13).1
  have ne61 : q15 ≠ q60 := ne_role kq15 kq60 (by decide)
  have rrq15 : R61 q15 = rl [(1, q13), (0, q10), (6, z16_q7), (3, z16_q3), (2, z16_q1)] := ((od61 q15 mq15).2 ne61).2.2.2.trans rrq15
  have riq15 : I61 q15 = il [(5, 0), (4, 0)] := ((od61 q15 mq15).2 ne61).2.1.trans riq15
  have kq15 : C61 q15 = 25 := ((od61 q15 mq15).2 ne61).1.trans kq15
  have mq15 := (od61 q15 mq15).1
  have ne61 : z16_q7 ≠ q60 := ne_role kz16_q7 kq60 (by decide)
  have kz16_q7 : C61 z16_q7 = 47 := ((od61 z16_q7 mz16_q7).2 ne61).1.trans kz16_q7
  have mz16_q7 := (od61 z16_q7 mz16_q7).1
  have ne61 : z16_q3 ≠ q60 := ne_role kz16_q3 kq60 (by decide)
  have kz16_q3 : C61 z16_q3 = 46 := ((od61 z16_q3 mz16_q3).2 ne61).1.trans kz16_q3
  have mz16_q3 := (od61 z16_q3 mz16_q3).1
  have ne61 : z16_q1 ≠ q60 := ne_role kz16_q1 kq60 (by decide)
  have kz16_q1 : C61 z16_q1 = 45 := ((od61 z16_q1 mz16_q1).2 ne61).1.trans kz16_q1
  have mz16_q1 := (od61 z16_q1 mz16_q1).1
  have ne61 : q18 ≠ q60 := ne_role kq18 kq60 (by decide)
  have va_q18_2 : I61 q18 2 = 0 := (congrFun ((od61 q18 mq18).2 ne61).2.1 2).trans va_q18_2
  have kq18 : C61 q18 = 8 := ((od61 q18 mq18).2 ne61).1.trans kq18
  have mq18 := (od61 q18 mq18).1
  have ne61 : q21 ≠ q60 := ne_role kq21 kq60 (by decide)
  have kq21 : C61 q21 = 4 := ((od61 q21 mq21).2 ne61).1.trans kq21
  have mq21 := (od61 q21 mq21).1
  have ne61 : q24 ≠ q60 := ne_role kq24 kq60 (by decide)
  have kq24 : C61 q24 = 1 := ((od61 q24 mq24).2 ne61).1.trans kq24
  have mq24 := (od61 q24 mq24).1
  have ne61 : q27 ≠ q60 := ne_role kq27 kq60 (by decide)
  have kq27 : C61 q27 = 7 := ((od61 q27 mq27).2 ne61).1.trans kq27
  have mq27 := (od61 q27 mq27).1
  have ne61 : q30 ≠ q60 := ne_role kq30 kq60 (by decide)
  have kq30 : C61 q30 = 7 := ((od61 q30 mq30).2 ne61).1.trans kq30
  have mq30 := (od61 q30 mq30).1
  have ne61 : q33 ≠ q60 := ne_role kq33 kq60 (by decide)
  have kq33 : C61 q33 = 7 := ((od61 q33 mq33).2 ne61).1.trans kq33
  have mq33 := (od61 q33 mq33).1
  have ne61 : q36 ≠ q60 := ne_role kq36 kq60 (by decide)
  have kq36 : C61 q36 = 7 := ((od61 q36 mq36).2 ne61).1.trans kq36
  have mq36 := (od61 q36 mq36).1
  have ne61 : q39 ≠ q60 := ne_role kq39 kq60 (by decide)
  have kq39 : C61 q39 = 7 := ((od61 q39 mq39).2 ne61).1.trans kq39
  have mq39 := (od61 q39 mq39).1
  have ne61 : q42 ≠ q60 := ne_role kq42 kq60 (by decide)
  have kq42 : C61 q42 = 7 := ((od61 q42 mq42).2 ne61).1.trans kq42
  have mq42 := (od61 q42 mq42).1
  have ne61 : q45 ≠ q60 := ne_role kq45 kq60 (by decide)
  have kq45 : C61 q45 = 7 := ((od61 q45 mq45).2 ne61).1.trans kq45
  have mq45 := (od61 q45 mq45).1
  have ne61 : q48 ≠ q60 := ne_role kq48 kq60 (by decide)
  have kq48 : C61 q48 = 7 := ((od61 q48 mq48).2 ne61).1.trans kq48
  have mq48 := (od61 q48 mq48).1
  have ne61 : q51 ≠ q60 := ne_role kq51 kq60 (by decide)
  have kq51 : C61 q51 = 7 := ((od61 q51 mq51).2 ne61).1.trans kq51
  have mq51 := (od61 q51 mq51).1
  have ne61 : q54 ≠ q60 := ne_role kq54 kq60 (by decide)
  have kq54 : C61 q54 = 7 := ((od61 q54 mq54).2 ne61).1.trans kq54
  have mq54 := (od61 q54 mq54).1
  have ne61 : q57 ≠ q60 := ne_role kq57 kq60 (by decide)
  have kq57 : C61 q57 = 7 := ((od61 q57 mq57).2 ne61).1.trans kq57
  have mq57 := (od61 q57 mq57).1
  have kq60 : C61 q60 = 7 := kq61
  have mq60 := (od61 q60 mq60).1
  have old := old.ctor od61 nq60
  have kk : KK L61 C61 I61 R61 [0, 1, 2, 3, 4, 5, 6, 7, 8, 16, 17, 18, 19, 20, 21, 22, 23, 24, 25, 26, 32, 33, 34, 35, 36, 37, 38, 39, 40, 41, 42, 43, 44, 45, 46, 47, 48, 49, 50, 51, 52, 53, 54, 55, 56, 58, 59, 60] := kk.wS rfl
  refine st_60 hx hb hH mq13 kq13 (Rg_in (Rg_c (x := 11) (a := 11) (b := 11) (by decide)) (by decide)) mq60 kq60 rfl dX10_init_157 (fun R62 H locs eR62 hH => ?_)
  have rra0 : R62 a0 = rl [(8, q24), (7, q21), (6, q18), (5, q15), (4, q13), (3, q10), (2, q7), (1, q4), (0, q1)] := by rw [eR62, u2_ne (ne_role ka0 kq13 (by decide))]; exact rra0
  have rrq15 : R62 q15 = rl [(1, q13), (0, q10), (6, z16_q7), (3, z16_q3), (2, z16_q1)] := by rw [eR62, u2_ne (ne_role kq15 kq13 (by decide))]; exact rrq15
  have rrq13 : R62 q13 = rl [(11, q60), (10, q57), (9, q54), (8, q51), (7, q48), (6, q45), (5, q42), (4, q39), (3, q36), (2, q33), (1, q30), (0, q27)] := by rw [eR62]; exact rl_put rrq13
  have kk : KK L61 C61 I61 R62 [0, 1, 2, 3, 4, 5, 6, 7, 8, 16, 17, 18, 19, 20, 21, 22, 23, 24, 25, 26, 32, 33, 34, 35, 36, 37, 38, 39, 40, 41, 42, 43, 44, 45, 46, 47, 48, 49, 50, 51, 52, 53, 54, 55, 56, 58, 59, 60] := by rw [eR62]; exact kk.stR kq13 zr_60
  have old : Old L0 C0 (I0, J0, R0) a0 L61 C61 I61 J61 R62 := by rw [eR62]; exact old.stR (Or.inr nq13)
  refine lv_iinc (v := 12) (lv' := [(1, .int 12), (0, .ref a0)]) hx hb dX10_init_158 hl (k := 0) rfl (by decide) (by decide) rfl (fun ls hl => ?_)
  refine lv_goto (tgt := 139) hx hb dX10_init_161 (by decide) ?_
  refine lv_iload_n hx hb dX10_init_139 rfl (lv_at hl 0 rfl) ?_
  refine lv_bipush (v := 20) hx hb dX10_init_140 (by decide) ?_
  refine lv_icmp_ge (tgt := 164) hx hb dX10_init_142 (by decide) (fun q => absurd q (by decide)) (fun q => ?_)
  refine lv_aload_n hx hb dX10_init_145 rfl (lv_at hl 1 rfl) ?_
  refine gf_10_4 (b := q13) (by rw [rra0]; rfl) hx hb hts hown hH ma0 ka0 rfl kf_X10_41 dX10_init_146 ?_
  refine lv_iload_n hx hb dX10_init_149 rfl (lv_at hl 0 rfl) ?_
  refine hNew (ci := 7) (N := 2) hx hb hts hown hH inX7 tyX7_ok rfl (by decide) rfl df_7 kcl_X10_39 kinst_X7 kini_X7 (by decide) (by decide) dX10_init_150 (fun q63 L63 C63 I63 J63 R63 H g63 eI63 eJ63 eR63 hH => ?_)
  have nq63 : q63 ∉ L0 := fun h => g63.2.2 (old q63 h).1
  have rra0 : R63 a0 = rl [(8, q24), (7, q21), (6, q18), (5, q15), (4, q13), (3, q10), (2, q7), (1, q4), (0, q1)] := by rw [eR63, va_up_ne _ _ (g63.ne ma0)]; exact rra0
  have ria0 : I63 a0 = il [] := by rw [eI63, va_up_ne _ _ (g63.ne ma0)]; exact ria0
  have ka0 := g63.role ma0 ka0
  have ma0 := g63.mem ma0
  have kq1 := g63.role mq1 kq1
  have mq1 := g63.mem mq1
  have kq4 := g63.role mq4 kq4
  have mq4 := g63.mem mq4
  have kq7 := g63.role mq7 kq7
  have mq7 := g63.mem mq7
  have kq10 := g63.role mq10 kq10
  have mq10 := g63.mem mq10
  have rrq13 : R63 q13 = rl [(11, q60), (10, q57), (9, q54), (8, q51), (7, q48), (6, q45), (5, q42), (4, q39), (3, q36), (2, q33), (1, q30), (0, q27)] := by rw [eR63, va_up_ne _ _ (g63.ne mq13)]; exact rrq13
  have riq13 : I63 q13 = il [] := by rw [eI63, va_up_ne _ _ (g63.ne mq13)]; exact riq13
  have kq13 := g63.role mq13 kq13
  have mq13 := g63.mem mq13
  have rrq15 : R63 q15 = rl [(1, q13), (0, q10), (6, z16_q7), (3, z16_q3), (2, z16_q1)] := by rw [eR63, va_up_ne _ _ (g63.ne mq15)]; exact rrq15
  have riq15 : I63 q15 = il [(5, 0), (4, 0)] := by rw [eI63, va_up_ne _ _ (g63.ne mq15)]; exact riq15
  have kq15 := g63.role mq15 kq15
  have mq15 := g63.mem mq15
  have kz16_q7 := g63.role mz16_q7 kz16_q7
  have mz16_q7 := g63.mem mz16_q7
  have kz16_q3 := g63.role mz16_q3 kz16_q3
  have mz16_q3 := g63.mem mz16_q3
  have kz16_q1 := g63.role mz16_q1 kz16_q1
  have mz16_q1 := g63.mem mz16_q1
  have n0q18 := g63.ne mq18
  have kq18 := g63.role mq18 kq18
  have mq18 := g63.mem mq18
  have kq21 := g63.role mq21 kq21
  have mq21 := g63.mem mq21
  have kq24 := g63.role mq24 kq24
  have mq24 := g63.mem mq24
  have kq27 := g63.role mq27 kq27
  have mq27 := g63.mem mq27
  have kq30 := g63.role mq30 kq30
  have mq30 := g63.mem mq30
  have kq33 := g63.role mq33 kq33
  have mq33 := g63.mem mq33
  have kq36 := g63.role mq36 kq36
  have mq36 := g63.mem mq36
  have kq39 := g63.role mq39 kq39
  have mq39 := g63.mem mq39
  have kq42 := g63.role mq42 kq42
  have mq42 := g63.mem mq42
  have kq45 := g63.role mq45 kq45
  have mq45 := g63.mem mq45
  have kq48 := g63.role mq48 kq48
  have mq48 := g63.mem mq48
  have kq51 := g63.role mq51 kq51
  have mq51 := g63.mem mq51
  have kq54 := g63.role mq54 kq54
  have mq54 := g63.mem mq54
  have kq57 := g63.role mq57 kq57
  have mq57 := g63.mem mq57
  have kq60 := g63.role mq60 kq60
  have mq60 := g63.mem mq60
  have mq63 := g63.new
  have kq63 := g63.at
  have va_q18_2 : I63 q18 2 = 0 := by rw [eI63, va_up_ne _ _ n0q18]; exact va_q18_2
  have rrq63 : R63 q63 = rl [] := by rw [eR63, va_up_self]; rfl
  have riq63 : I63 q63 = il [] := by rw [eI63, va_up_self]; rfl
  have kk := kk.new g63 eI63 eR63 zz_23 zr_23 (Or.inl rfl) (by decide)
  have old := old.new g63 eI63 eJ63 eR63
  refine lv_dup hx hb dX10_init_153 rfl ?_
  refine afA (va_runI (As := []) (rest := [.ref q63, .int 12, .ref q13]) ⟨hx, hb, hml, hown, hts⟩ (c_X7_init kk mq63 kq63 riq63 rrq63) ⟨callB_of 0 hts (wG_code kc_yX7_init) rfl rfl rfl (hts _ kini_X7) (hts _ km_X10_77) ⟨by decide, by decide, by decide +kernel⟩ ⟨by decide, by decide⟩, rfl, hts _ ki_yX7_init⟩ (preS hH) rfl rfl hl.1 rfl (lv_room (Nat.le_of_ble_eq_true rfl)) dX10_init_154 ⟨by decide, by decide⟩) hH (fun L64 C64 I64 J64 R64 H locs hp hH => ?_)
  obtain ⟨kk, od64, kq64⟩ := hp
  have ne64 : a0 ≠ q63 := ne_role ka0 kq63 (by decide)
  have rra0 : R64 a0 = rl [(8, q24), (7, q21), (6, q18), (5, q15), (4, q13), (3, q10), (2, q7), (1, q4), (0, q1)] := ((od64 a0 ma0).2 ne64).2.2.2.trans rra0
  have ria0 : I64 a0 = il [] := ((od64 a0 ma0).2 ne64).2.1.trans ria0
  have ka0 : C64 a0 = 26 := ((od64 a0 ma0).2 ne64).1.trans ka0
  have ma0 := (od64 a0 ma0).1
  have ne64 : q1 ≠ q63 := ne_role kq1 kq63 (by decide)
  have kq1 : C64 q1 = 6 := ((od64 q1 mq1).2 ne64).1.trans kq1
  have mq1 := (od64 q1 mq1).1
  have ne64 : q4 ≠ q63 := ne_role kq4 kq63 (by decide)
  have kq4 : C64 q4 = 0 := ((od64 q4 mq4).2 ne64).1.trans kq4
  have mq4 := (od64 q4 mq4).1
  have ne64 : q7 ≠ q63 := ne_role kq7 kq63 (by decide)
  have kq7 : C64 q7 = 2 := ((od64 q7 mq7).2 ne64).1.trans kq7
  have mq7 := (od64 q7 mq7).1
  have ne64 : q10 ≠ q63 := ne_role kq10 kq63 (by decide)
  have kq10 : C64 q10 = 3 := ((od64 q10 mq10).2 ne64).1.trans kq10
  have mq10 := (od64 q10 mq10).1
  have ne64 : q13 ≠ q63 := ne_role kq13 kq63 (by decide)
  have rrq13 : R64 q13 = rl [(11, q60), (10, q57), (9, q54), (8, q51), (7, q48), (6, q45), (5, q42), (4, q39), (3, q36), (2, q33), (1, q30), (0, q27)] := ((od64 q13 mq13).2 ne64).2.2.2.trans rrq13
  have riq13 : I64 q13 = il [] := ((od64 q13 mq13).2 ne64).2.1.trans riq13
  have kq13 : C64 q13 = 60 := ((od64 q13 mq13).2 ne64).1.trans kq13
  have mq13 := (od64 q13 mq13).1
  have ne64 : q15 ≠ q63 := ne_role kq15 kq63 (by decide)
  have rrq15 : R64 q15 = rl [(1, q13), (0, q10), (6, z16_q7), (3, z16_q3), (2, z16_q1)] := ((od64 q15 mq15).2 ne64).2.2.2.trans rrq15
  have riq15 : I64 q15 = il [(5, 0), (4, 0)] := ((od64 q15 mq15).2 ne64).2.1.trans riq15
  have kq15 : C64 q15 = 25 := ((od64 q15 mq15).2 ne64).1.trans kq15
  have mq15 := (od64 q15 mq15).1
  have ne64 : z16_q7 ≠ q63 := ne_role kz16_q7 kq63 (by decide)
  have kz16_q7 : C64 z16_q7 = 47 := ((od64 z16_q7 mz16_q7).2 ne64).1.trans kz16_q7
  have mz16_q7 := (od64 z16_q7 mz16_q7).1
  have ne64 : z16_q3 ≠ q63 := ne_role kz16_q3 kq63 (by decide)
  have kz16_q3 : C64 z16_q3 = 46 := ((od64 z16_q3 mz16_q3).2 ne64).1.trans kz16_q3
  have mz16_q3 := (od64 z16_q3 mz16_q3).1
  have ne64 : z16_q1 ≠ q63 := ne_role kz16_q1 kq63 (by decide)
  have kz16_q1 : C64 z16_q1 = 45 := ((od64 z16_q1 mz16_q1).2 ne64).1.trans kz16_q1
  have mz16_q1 := (od64 z16_q1 mz16_q1).1
  have ne64 : q18 ≠ q63 := ne_role kq18 kq63 (by decide)
  have va_q18_2 : I64 q18 2 = 0 := (congrFun ((od64 q18 mq18).2 ne64).2.1 2).trans va_q18_2
  have kq18 : C64 q18 = 8 := ((od64 q18 mq18).2 ne64).1.trans kq18
  have mq18 := (od64 q18 mq18).1
  have ne64 : q21 ≠ q63 := ne_role kq21 kq63 (by decide)
  have kq21 : C64 q21 = 4 := ((od64 q21 mq21).2 ne64).1.trans kq21
  have mq21 := (od64 q21 mq21).1
  have ne64 : q24 ≠ q63 := ne_role kq24 kq63 (by decide)
  have kq24 : C64 q24 = 1 := ((od64 q24 mq24).2 ne64).1.trans kq24
  have mq24 := (od64 q24 mq24).1
  have ne64 : q27 ≠ q63 := ne_role kq27 kq63 (by decide)
  have kq27 : C64 q27 = 7 := ((od64 q27 mq27).2 ne64).1.trans kq27
  have mq27 := (od64 q27 mq27).1
  have ne64 : q30 ≠ q63 := ne_role kq30 kq63 (by decide)
  have kq30 : C64 q30 = 7 := ((od64 q30 mq30).2 ne64).1.trans kq30
  have mq30 := (od64 q30 mq30).1
  have ne64 : q33 ≠ q63 := ne_role kq33 kq63 (by decide)
  have kq33 : C64 q33 = 7 := ((od64 q33 mq33).2 ne64).1.trans kq33
  have mq33 := (od64 q33 mq33).1
  have ne64 : q36 ≠ q63 := ne_role kq36 kq63 (by decide)
  have kq36 : C64 q36 = 7 := ((od64 q36 mq36).2 ne64).1.trans kq36
  have mq36 := (od64 q36 mq36).1
  have ne64 : q39 ≠ q63 := ne_role kq39 kq63 (by decide)
  have kq39 : C64 q39 = 7 := ((od64 q39 mq39).2 ne64).1.trans kq39
  have mq39 := (od64 q39 mq39).1
  have ne64 : q42 ≠ q63 := ne_role kq42 kq63 (by decide)
  have kq42 : C64 q42 = 7 := ((od64 q42 mq42).2 ne64).1.trans kq42
  have mq42 := (od64 q42 mq42).1
  have ne64 : q45 ≠ q63 := ne_role kq45 kq63 (by decide)
  have kq45 : C64 q45 = 7 := ((od64 q45 mq45).2 ne64).1.trans kq45
  have mq45 := (od64 q45 mq45).1
  have ne64 : q48 ≠ q63 := ne_role kq48 kq63 (by decide)
  have kq48 : C64 q48 = 7 := ((od64 q48 mq48).2 ne64).1.trans kq48
  have mq48 := (od64 q48 mq48).1
  have ne64 : q51 ≠ q63 := ne_role kq51 kq63 (by decide)
  have kq51 : C64 q51 = 7 := ((od64 q51 mq51).2 ne64).1.trans kq51
  have mq51 := (od64 q51 mq51).1
  have ne64 : q54 ≠ q63 := ne_role kq54 kq63 (by decide)
  have kq54 : C64 q54 = 7 := ((od64 q54 mq54).2 ne64).1.trans kq54
  have mq54 := (od64 q54 mq54).1
  have ne64 : q57 ≠ q63 := ne_role kq57 kq63 (by decide)
  have kq57 : C64 q57 = 7 := ((od64 q57 mq57).2 ne64).1.trans kq57
  have mq57 := (od64 q57 mq57).1
  have ne64 : q60 ≠ q63 := ne_role kq60 kq63 (by decide)
  have kq60 : C64 q60 = 7 := ((od64 q60 mq60).2 ne64).1.trans kq60
  have mq60 := (od64 q60 mq60).1
  have kq63 : C64 q63 = 7 := kq64
  have mq63 := (od64 q63 mq63).1
  have old := old.ctor od64 nq63
  have kk : KK L64 C64 I64 R64 [0, 1, 2, 3, 4, 5, 6, 7, 8, 16, 17, 18, 19, 20, 21, 22, 23, 24, 25, 26, 32, 33, 34, 35, 36, 37, 38, 39, 40, 41, 42, 43, 44, 45, 46, 47, 48, 49, 50, 51, 52, 53, 54, 55, 56, 58, 59, 60] := kk.wS rfl
  refine st_60 hx hb hH mq13 kq13 (Rg_in (Rg_c (x := 12) (a := 12) (b := 12) (by decide)) (by decide)) mq63 kq63 rfl dX10_init_157 (fun R65 H locs eR65 hH => ?_)
  have rra0 : R65 a0 = rl [(8, q24), (7, q21), (6, q18), (5, q15), (4, q13), (3, q10), (2, q7), (1, q4), (0, q1)] := by rw [eR65, u2_ne (ne_role ka0 kq13 (by decide))]; exact rra0
  have rrq15 : R65 q15 = rl [(1, q13), (0, q10), (6, z16_q7), (3, z16_q3), (2, z16_q1)] := by rw [eR65, u2_ne (ne_role kq15 kq13 (by decide))]; exact rrq15
  have rrq13 : R65 q13 = rl [(12, q63), (11, q60), (10, q57), (9, q54), (8, q51), (7, q48), (6, q45), (5, q42), (4, q39), (3, q36), (2, q33), (1, q30), (0, q27)] := by rw [eR65]; exact rl_put rrq13
  have kk : KK L64 C64 I64 R65 [0, 1, 2, 3, 4, 5, 6, 7, 8, 16, 17, 18, 19, 20, 21, 22, 23, 24, 25, 26, 32, 33, 34, 35, 36, 37, 38, 39, 40, 41, 42, 43, 44, 45, 46, 47, 48, 49, 50, 51, 52, 53, 54, 55, 56, 58, 59, 60] := by rw [eR65]; exact kk.stR kq13 zr_60
  have old : Old L0 C0 (I0, J0, R0) a0 L64 C64 I64 J64 R65 := by rw [eR65]; exact old.stR (Or.inr nq13)
  refine lv_iinc (v := 13) (lv' := [(1, .int 13), (0, .ref a0)]) hx hb dX10_init_158 hl (k := 0) rfl (by decide) (by decide) rfl (fun ls hl => ?_)
  refine lv_goto (tgt := 139) hx hb dX10_init_161 (by decide) ?_
  refine lv_iload_n hx hb dX10_init_139 rfl (lv_at hl 0 rfl) ?_
  refine lv_bipush (v := 20) hx hb dX10_init_140 (by decide) ?_
  refine lv_icmp_ge (tgt := 164) hx hb dX10_init_142 (by decide) (fun q => absurd q (by decide)) (fun q => ?_)
  refine lv_aload_n hx hb dX10_init_145 rfl (lv_at hl 1 rfl) ?_
  refine gf_10_4 (b := q13) (by rw [rra0]; rfl) hx hb hts hown hH ma0 ka0 rfl kf_X10_41 dX10_init_146 ?_
  refine lv_iload_n hx hb dX10_init_149 rfl (lv_at hl 0 rfl) ?_
  refine hNew (ci := 7) (N := 2) hx hb hts hown hH inX7 tyX7_ok rfl (by decide) rfl df_7 kcl_X10_39 kinst_X7 kini_X7 (by decide) (by decide) dX10_init_150 (fun q66 L66 C66 I66 J66 R66 H g66 eI66 eJ66 eR66 hH => ?_)
  have nq66 : q66 ∉ L0 := fun h => g66.2.2 (old q66 h).1
  have rra0 : R66 a0 = rl [(8, q24), (7, q21), (6, q18), (5, q15), (4, q13), (3, q10), (2, q7), (1, q4), (0, q1)] := by rw [eR66, va_up_ne _ _ (g66.ne ma0)]; exact rra0
  have ria0 : I66 a0 = il [] := by rw [eI66, va_up_ne _ _ (g66.ne ma0)]; exact ria0
  have ka0 := g66.role ma0 ka0
  have ma0 := g66.mem ma0
  have kq1 := g66.role mq1 kq1
  have mq1 := g66.mem mq1
  have kq4 := g66.role mq4 kq4
  have mq4 := g66.mem mq4
  have kq7 := g66.role mq7 kq7
  have mq7 := g66.mem mq7
  have kq10 := g66.role mq10 kq10
  have mq10 := g66.mem mq10
  have rrq13 : R66 q13 = rl [(12, q63), (11, q60), (10, q57), (9, q54), (8, q51), (7, q48), (6, q45), (5, q42), (4, q39), (3, q36), (2, q33), (1, q30), (0, q27)] := by rw [eR66, va_up_ne _ _ (g66.ne mq13)]; exact rrq13
  have riq13 : I66 q13 = il [] := by rw [eI66, va_up_ne _ _ (g66.ne mq13)]; exact riq13
  have kq13 := g66.role mq13 kq13
  have mq13 := g66.mem mq13
  have rrq15 : R66 q15 = rl [(1, q13), (0, q10), (6, z16_q7), (3, z16_q3), (2, z16_q1)] := by rw [eR66, va_up_ne _ _ (g66.ne mq15)]; exact rrq15
  have riq15 : I66 q15 = il [(5, 0), (4, 0)] := by rw [eI66, va_up_ne _ _ (g66.ne mq15)]; exact riq15
  have kq15 := g66.role mq15 kq15
  have mq15 := g66.mem mq15
  have kz16_q7 := g66.role mz16_q7 kz16_q7
  have mz16_q7 := g66.mem mz16_q7
  have kz16_q3 := g66.role mz16_q3 kz16_q3
  have mz16_q3 := g66.mem mz16_q3
  have kz16_q1 := g66.role mz16_q1 kz16_q1
  have mz16_q1 := g66.mem mz16_q1
  have n0q18 := g66.ne mq18
  have kq18 := g66.role mq18 kq18
  have mq18 := g66.mem mq18
  have kq21 := g66.role mq21 kq21
  have mq21 := g66.mem mq21
  have kq24 := g66.role mq24 kq24
  have mq24 := g66.mem mq24
  have kq27 := g66.role mq27 kq27
  have mq27 := g66.mem mq27
  have kq30 := g66.role mq30 kq30
  have mq30 := g66.mem mq30
  have kq33 := g66.role mq33 kq33
  have mq33 := g66.mem mq33
  have kq36 := g66.role mq36 kq36
  have mq36 := g66.mem mq36
  have kq39 := g66.role mq39 kq39
  have mq39 := g66.mem mq39
  have kq42 := g66.role mq42 kq42
  have mq42 := g66.mem mq42
  have kq45 := g66.role mq45 kq45
  have mq45 := g66.mem mq45
  have kq48 := g66.role mq48 kq48
  have mq48 := g66.mem mq48
  have kq51 := g66.role mq51 kq51
  have mq51 := g66.mem mq51
  have kq54 := g66.role mq54 kq54
  have mq54 := g66.mem mq54
  have kq57 := g66.role mq57 kq57
  have mq57 := g66.mem mq57
  have kq60 := g66.role mq60 kq60
  have mq60 := g66.mem mq60
  have kq63 := g66.role mq63 kq63
  have mq63 := g66.mem mq63
  have mq66 := g66.new
  have kq66 := g66.at
  have va_q18_2 : I66 q18 2 = 0 := by rw [eI66, va_up_ne _ _ n0q18]; exact va_q18_2
  have rrq66 : R66 q66 = rl [] := by rw [eR66, va_up_self]; rfl
  have riq66 : I66 q66 = il [] := by rw [eI66, va_up_self]; rfl
  have kk := kk.new g66 eI66 eR66 zz_23 zr_23 (Or.inl rfl) (by decide)
  have old := old.new g66 eI66 eJ66 eR66
  refine lv_dup hx hb dX10_init_153 rfl ?_
  refine afA (va_runI (As := []) (rest := [.ref q66, .int 13, .ref q13]) ⟨hx, hb, hml, hown, hts⟩ (c_X7_init kk mq66 kq66 riq66 rrq66) ⟨callB_of 0 hts (wG_code kc_yX7_init) rfl rfl rfl (hts _ kini_X7) (hts _ km_X10_77) ⟨by decide, by decide, by decide +kernel⟩ ⟨by decide, by decide⟩, rfl, hts _ ki_yX7_init⟩ (preS hH) rfl rfl hl.1 rfl (lv_room (Nat.le_of_ble_eq_true rfl)) dX10_init_154 ⟨by decide, by decide⟩) hH (fun L67 C67 I67 J67 R67 H locs hp hH => ?_)
  obtain ⟨kk, od67, kq67⟩ := hp
  have ne67 : a0 ≠ q66 := ne_role ka0 kq66 (by decide)
  have rra0 : R67 a0 = rl [(8, q24), (7, q21), (6, q18), (5, q15), (4, q13), (3, q10), (2, q7), (1, q4), (0, q1)] := ((od67 a0 ma0).2 ne67).2.2.2.trans rra0
  have ria0 : I67 a0 = il [] := ((od67 a0 ma0).2 ne67).2.1.trans ria0
  have ka0 : C67 a0 = 26 := ((od67 a0 ma0).2 ne67).1.trans ka0
  have ma0 := (od67 a0 ma0).1
  have ne67 : q1 ≠ q66 := ne_role kq1 kq66 (by decide)
  have kq1 : C67 q1 = 6 := ((od67 q1 mq1).2 ne67).1.trans kq1
  have mq1 := (od67 q1 mq1).1
  have ne67 : q4 ≠ q66 := ne_role kq4 kq66 (by decide)
  have kq4 : C67 q4 = 0 := ((od67 q4 mq4).2 ne67).1.trans kq4
  have mq4 := (od67 q4 mq4).1
  have ne67 : q7 ≠ q66 := ne_role kq7 kq66 (by decide)
  have kq7 : C67 q7 = 2 := ((od67 q7 mq7).2 ne67).1.trans kq7
  have mq7 := (od67 q7 mq7).1
  have ne67 : q10 ≠ q66 := ne_role kq10 kq66 (by decide)
  have kq10 : C67 q10 = 3 := ((od67 q10 mq10).2 ne67).1.trans kq10
  have mq10 := (od67 q10 mq10).1
  have ne67 : q13 ≠ q66 := ne_role kq13 kq66 (by decide)
  have rrq13 : R67 q13 = rl [(12, q63), (11, q60), (10, q57), (9, q54), (8, q51), (7, q48), (6, q45), (5, q42), (4, q39), (3, q36), (2, q33), (1, q30), (0, q27)] := ((od67 q13 mq13).2 ne67).2.2.2.trans rrq13
  have riq13 : I67 q13 = il [] := ((od67 q13 mq13).2 ne67).2.1.trans riq13
  have kq13 : C67 q13 = 60 := ((od67 q13 mq13).2 ne67).1.trans kq13
  have mq13 := (od67 q13 mq13).1
  have ne67 : q15 ≠ q66 := ne_role kq15 kq66 (by decide)
  have rrq15 : R67 q15 = rl [(1, q13), (0, q10), (6, z16_q7), (3, z16_q3), (2, z16_q1)] := ((od67 q15 mq15).2 ne67).2.2.2.trans rrq15
  have riq15 : I67 q15 = il [(5, 0), (4, 0)] := ((od67 q15 mq15).2 ne67).2.1.trans riq15
  have kq15 : C67 q15 = 25 := ((od67 q15 mq15).2 ne67).1.trans kq15
  have mq15 := (od67 q15 mq15).1
  have ne67 : z16_q7 ≠ q66 := ne_role kz16_q7 kq66 (by decide)
  have kz16_q7 : C67 z16_q7 = 47 := ((od67 z16_q7 mz16_q7).2 ne67).1.trans kz16_q7
  have mz16_q7 := (od67 z16_q7 mz16_q7).1
  have ne67 : z16_q3 ≠ q66 := ne_role kz16_q3 kq66 (by decide)
  have kz16_q3 : C67 z16_q3 = 46 := ((od67 z16_q3 mz16_q3).2 ne67).1.trans kz16_q3
  have mz16_q3 := (od67 z16_q3 mz16_q3).1
  have ne67 : z16_q1 ≠ q66 := ne_role kz16_q1 kq66 (by decide)
  have kz16_q1 : C67 z16_q1 = 45 := ((od67 z16_q1 mz16_q1).2 ne67).1.trans kz16_q1
  have mz16_q1 := (od67 z16_q1 mz16_q1).1
  have ne67 : q18 ≠ q66 := ne_role kq18 kq66 (by decide)
  have va_q18_2 : I67 q18 2 = 0 := (congrFun ((od67 q18 mq18).2 ne67).2.1 2).trans va_q18_2
  have kq18 : C67 q18 = 8 := ((od67 q18 mq18).2 ne67).1.trans kq18
  have mq18 := (od67 q18 mq18).1
  have ne67 : q21 ≠ q66 := ne_role kq21 kq66 (by decide)
  have kq21 : C67 q21 = 4 := ((od67 q21 mq21).2 ne67).1.trans kq21
  have mq21 := (od67 q21 mq21).1
  have ne67 : q24 ≠ q66 := ne_role kq24 kq66 (by decide)
  have kq24 : C67 q24 = 1 := ((od67 q24 mq24).2 ne67).1.trans kq24
  have mq24 := (od67 q24 mq24).1
  have ne67 : q27 ≠ q66 := ne_role kq27 kq66 (by decide)
  have kq27 : C67 q27 = 7 := ((od67 q27 mq27).2 ne67).1.trans kq27
  have mq27 := (od67 q27 mq27).1
  have ne67 : q30 ≠ q66 := ne_role kq30 kq66 (by decide)
  have kq30 : C67 q30 = 7 := ((od67 q30 mq30).2 ne67).1.trans kq30
  have mq30 := (od67 q30 mq30).1
  have ne67 : q33 ≠ q66 := ne_role kq33 kq66 (by decide)
  have kq33 : C67 q33 = 7 := ((od67 q33 mq33).2 ne67).1.trans kq33
  have mq33 := (od67 q33 mq33).1
  have ne67 : q36 ≠ q66 := ne_role kq36 kq66 (by decide)
  have kq36 : C67 q36 = 7 := ((od67 q36 mq36).2 ne67).1.trans kq36
  have mq36 := (od67 q36 mq36).1
  have ne67 : q39 ≠ q66 := ne_role kq39 kq66 (by decide)
  have kq39 : C67 q39 = 7 := ((od67 q39 mq39).2 ne67).1.trans kq39
  have mq39 := (od67 q39 mq39).1
  have ne67 : q42 ≠ q66 := ne_role kq42 kq66 (by decide)
  have kq42 : C67 q42 = 7 := ((od67 q42 mq42).2 ne67).1.trans kq42
  have mq42 := (od67 q42 mq42).1
  have ne67 : q45 ≠ q66 := ne_role kq45 kq66 (by decide)
  have kq45 : C67 q45 = 7 := ((od67 q45 mq45).2 ne67).1.trans kq45
  have mq45 := (od67 q45 mq45).1
  have ne67 : q48 ≠ q66 := ne_role kq48 kq66 (by decide)
  have kq48 : C67 q48 = 7 := ((od67 q48 mq48).2 ne67).1.trans kq48
  have mq48 := (od67 q48 mq48).1
  have ne67 : q51 ≠ q66 := ne_role kq51 kq66 (by decide)
  have kq51 : C67 q51 = 7 := ((od67 q51 mq51).2 ne67).1.trans kq51
  have mq51 := (od67 q51 mq51).1
  have ne67 : q54 ≠ q66 := ne_role kq54 kq66 (by decide)
  have kq54 : C67 q54 = 7 := ((od67 q54 mq54).2 ne67).1.trans kq54
  have mq54 := (od67 q54 mq54).1
  have ne67 : q57 ≠ q66 := ne_role kq57 kq66 (by decide)
  have kq57 : C67 q57 = 7 := ((od67 q57 mq57).2 ne67).1.trans kq57
  have mq57 := (od67 q57 mq57).1
  have ne67 : q60 ≠ q66 := ne_role kq60 kq66 (by decide)
  have kq60 : C67 q60 = 7 := ((od67 q60 mq60).2 ne67).1.trans kq60
  have mq60 := (od67 q60 mq60).1
  have ne67 : q63 ≠ q66 := ne_role kq63 kq66 (by decide)
  have kq63 : C67 q63 = 7 := ((od67 q63 mq63).2 ne67).1.trans kq63
  have mq63 := (od67 q63 mq63).1
  have kq66 : C67 q66 = 7 := kq67
  have mq66 := (od67 q66 mq66).1
  have old := old.ctor od67 nq66
  have kk : KK L67 C67 I67 R67 [0, 1, 2, 3, 4, 5, 6, 7, 8, 16, 17, 18, 19, 20, 21, 22, 23, 24, 25, 26, 32, 33, 34, 35, 36, 37, 38, 39, 40, 41, 42, 43, 44, 45, 46, 47, 48, 49, 50, 51, 52, 53, 54, 55, 56, 58, 59, 60] := kk.wS rfl
  refine st_60 hx hb hH mq13 kq13 (Rg_in (Rg_c (x := 13) (a := 13) (b := 13) (by decide)) (by decide)) mq66 kq66 rfl dX10_init_157 (fun R68 H locs eR68 hH => ?_)
  have rra0 : R68 a0 = rl [(8, q24), (7, q21), (6, q18), (5, q15), (4, q13), (3, q10), (2, q7), (1, q4), (0, q1)] := by rw [eR68, u2_ne (ne_role ka0 kq13 (by decide))]; exact rra0
  have rrq15 : R68 q15 = rl [(1, q13), (0, q10), (6, z16_q7), (3, z16_q3), (2, z16_q1)] := by rw [eR68, u2_ne (ne_role kq15 kq13 (by decide))]; exact rrq15
  have rrq13 : R68 q13 = rl [(13, q66), (12, q63), (11, q60), (10, q57), (9, q54), (8, q51), (7, q48), (6, q45), (5, q42), (4, q39), (3, q36), (2, q33), (1, q30), (0, q27)] := by rw [eR68]; exact rl_put rrq13
  have kk : KK L67 C67 I67 R68 [0, 1, 2, 3, 4, 5, 6, 7, 8, 16, 17, 18, 19, 20, 21, 22, 23, 24, 25, 26, 32, 33, 34, 35, 36, 37, 38, 39, 40, 41, 42, 43, 44, 45, 46, 47, 48, 49, 50, 51, 52, 53, 54, 55, 56, 58, 59, 60] := by rw [eR68]; exact kk.stR kq13 zr_60
  have old : Old L0 C0 (I0, J0, R0) a0 L67 C67 I67 J67 R68 := by rw [eR68]; exact old.stR (Or.inr nq13)
  refine lv_iinc (v := 14) (lv' := [(1, .int 14), (0, .ref a0)]) hx hb dX10_init_158 hl (k := 0) rfl (by decide) (by decide) rfl (fun ls hl => ?_)
  refine lv_goto (tgt := 139) hx hb dX10_init_161 (by decide) ?_
  refine lv_iload_n hx hb dX10_init_139 rfl (lv_at hl 0 rfl) ?_
  refine lv_bipush (v := 20) hx hb dX10_init_140 (by decide) ?_
  refine lv_icmp_ge (tgt := 164) hx hb dX10_init_142 (by decide) (fun q => absurd q (by decide)) (fun q => ?_)
  refine lv_aload_n hx hb dX10_init_145 rfl (lv_at hl 1 rfl) ?_
  refine gf_10_4 (b := q13) (by rw [rra0]; rfl) hx hb hts hown hH ma0 ka0 rfl kf_X10_41 dX10_init_146 ?_
  refine lv_iload_n hx hb dX10_init_149 rfl (lv_at hl 0 rfl) ?_
  refine hNew (ci := 7) (N := 2) hx hb hts hown hH inX7 tyX7_ok rfl (by decide) rfl df_7 kcl_X10_39 kinst_X7 kini_X7 (by decide) (by decide) dX10_init_150 (fun q69 L69 C69 I69 J69 R69 H g69 eI69 eJ69 eR69 hH => ?_)
  have nq69 : q69 ∉ L0 := fun h => g69.2.2 (old q69 h).1
  have rra0 : R69 a0 = rl [(8, q24), (7, q21), (6, q18), (5, q15), (4, q13), (3, q10), (2, q7), (1, q4), (0, q1)] := by rw [eR69, va_up_ne _ _ (g69.ne ma0)]; exact rra0
  have ria0 : I69 a0 = il [] := by rw [eI69, va_up_ne _ _ (g69.ne ma0)]; exact ria0
  have ka0 := g69.role ma0 ka0
  have ma0 := g69.mem ma0
  have kq1 := g69.role mq1 kq1
  have mq1 := g69.mem mq1
  have kq4 := g69.role mq4 kq4
  have mq4 := g69.mem mq4
  have kq7 := g69.role mq7 kq7
  have mq7 := g69.mem mq7
  have kq10 := g69.role mq10 kq10
  have mq10 := g69.mem mq10
  have rrq13 : R69 q13 = rl [(13, q66), (12, q63), (11, q60), (10, q57), (9, q54), (8, q51), (7, q48), (6, q45), (5, q42), (4, q39), (3, q36), (2, q33), (1, q30), (0, q27)] := by rw [eR69, va_up_ne _ _ (g69.ne mq13)]; exact rrq13
  have riq13 : I69 q13 = il [] := by rw [eI69, va_up_ne _ _ (g69.ne mq13)]; exact riq13
  have kq13 := g69.role mq13 kq13
  have mq13 := g69.mem mq13
  have rrq15 : R69 q15 = rl [(1, q13), (0, q10), (6, z16_q7), (3, z16_q3), (2, z16_q1)] := by rw [eR69, va_up_ne _ _ (g69.ne mq15)]; exact rrq15
  have riq15 : I69 q15 = il [(5, 0), (4, 0)] := by rw [eI69, va_up_ne _ _ (g69.ne mq15)]; exact riq15
  have kq15 := g69.role mq15 kq15
  have mq15 := g69.mem mq15
  have kz16_q7 := g69.role mz16_q7 kz16_q7
  have mz16_q7 := g69.mem mz16_q7
  have kz16_q3 := g69.role mz16_q3 kz16_q3
  have mz16_q3 := g69.mem mz16_q3
  have kz16_q1 := g69.role mz16_q1 kz16_q1
  have mz16_q1 := g69.mem mz16_q1
  have n0q18 := g69.ne mq18
  have kq18 := g69.role mq18 kq18
  have mq18 := g69.mem mq18
  have kq21 := g69.role mq21 kq21
  have mq21 := g69.mem mq21
  have kq24 := g69.role mq24 kq24
  have mq24 := g69.mem mq24
  have kq27 := g69.role mq27 kq27
  have mq27 := g69.mem mq27
  have kq30 := g69.role mq30 kq30
  have mq30 := g69.mem mq30
  have kq33 := g69.role mq33 kq33
  have mq33 := g69.mem mq33
  have kq36 := g69.role mq36 kq36
  have mq36 := g69.mem mq36
  have kq39 := g69.role mq39 kq39
  have mq39 := g69.mem mq39
  have kq42 := g69.role mq42 kq42
  have mq42 := g69.mem mq42
  have kq45 := g69.role mq45 kq45
  have mq45 := g69.mem mq45
  have kq48 := g69.role mq48 kq48
  have mq48 := g69.mem mq48
  have kq51 := g69.role mq51 kq51
  have mq51 := g69.mem mq51
  have kq54 := g69.role mq54 kq54
  have mq54 := g69.mem mq54
  have kq57 := g69.role mq57 kq57
  have mq57 := g69.mem mq57
  have kq60 := g69.role mq60 kq60
  have mq60 := g69.mem mq60
  have kq63 := g69.role mq63 kq63
  have mq63 := g69.mem mq63
  have kq66 := g69.role mq66 kq66
  have mq66 := g69.mem mq66
  have mq69 := g69.new
  have kq69 := g69.at
  have va_q18_2 : I69 q18 2 = 0 := by rw [eI69, va_up_ne _ _ n0q18]; exact va_q18_2
  have rrq69 : R69 q69 = rl [] := by rw [eR69, va_up_self]; rfl
  have riq69 : I69 q69 = il [] := by rw [eI69, va_up_self]; rfl
  have kk := kk.new g69 eI69 eR69 zz_23 zr_23 (Or.inl rfl) (by decide)
  have old := old.new g69 eI69 eJ69 eR69
  refine lv_dup hx hb dX10_init_153 rfl ?_
  refine afA (va_runI (As := []) (rest := [.ref q69, .int 14, .ref q13]) ⟨hx, hb, hml, hown, hts⟩ (c_X7_init kk mq69 kq69 riq69 rrq69) ⟨callB_of 0 hts (wG_code kc_yX7_init) rfl rfl rfl (hts _ kini_X7) (hts _ km_X10_77) ⟨by decide, by decide, by decide +kernel⟩ ⟨by decide, by decide⟩, rfl, hts _ ki_yX7_init⟩ (preS hH) rfl rfl hl.1 rfl (lv_room (Nat.le_of_ble_eq_true rfl)) dX10_init_154 ⟨by decide, by decide⟩) hH (fun L70 C70 I70 J70 R70 H locs hp hH => ?_)
  obtain ⟨kk, od70, kq70⟩ := hp
  have ne70 : a0 ≠ q69 := ne_role ka0 kq69 (by decide)
  have rra0 : R70 a0 = rl [(8, q24), (7, q21), (6, q18), (5, q15), (4, q13), (3, q10), (2, q7), (1, q4), (0, q1)] := ((od70 a0 ma0).2 ne70).2.2.2.trans rra0
  have ria0 : I70 a0 = il [] := ((od70 a0 ma0).2 ne70).2.1.trans ria0
  have ka0 : C70 a0 = 26 := ((od70 a0 ma0).2 ne70).1.trans ka0
  have ma0 := (od70 a0 ma0).1
  have ne70 : q1 ≠ q69 := ne_role kq1 kq69 (by decide)
  have kq1 : C70 q1 = 6 := ((od70 q1 mq1).2 ne70).1.trans kq1
  have mq1 := (od70 q1 mq1).1
  have ne70 : q4 ≠ q69 := ne_role kq4 kq69 (by decide)
  have kq4 : C70 q4 = 0 := ((od70 q4 mq4).2 ne70).1.trans kq4
  have mq4 := (od70 q4 mq4).1
  have ne70 : q7 ≠ q69 := ne_role kq7 kq69 (by decide)
  have kq7 : C70 q7 = 2 := ((od70 q7 mq7).2 ne70).1.trans kq7
  have mq7 := (od70 q7 mq7).1
  have ne70 : q10 ≠ q69 := ne_role kq10 kq69 (by decide)
  have kq10 : C70 q10 = 3 := ((od70 q10 mq10).2 ne70).1.trans kq10
  have mq10 := (od70 q10 mq10).1
  have ne70 : q13 ≠ q69 := ne_role kq13 kq69 (by decide)
  have rrq13 : R70 q13 = rl [(13, q66), (12, q63), (11, q60), (10, q57), (9, q54), (8, q51), (7, q48), (6, q45), (5, q42), (4, q39), (3, q36), (2, q33), (1, q30), (0, q27)] := ((od70 q13 mq13).2 ne70).2.2.2.trans rrq13
  have riq13 : I70 q13 = il [] := ((od70 q13 mq13).2 ne70).2.1.trans riq13
  have kq13 : C70 q13 = 60 := ((od70 q13 mq13).2 ne70).1.trans kq13
  have mq13 := (od70 q13 mq13).1
  have ne70 : q15 ≠ q69 := ne_role kq15 kq69 (by decide)
  have rrq15 : R70 q15 = rl [(1, q13), (0, q10), (6, z16_q7), (3, z16_q3), (2, z16_q1)] := ((od70 q15 mq15).2 ne70).2.2.2.trans rrq15
  have riq15 : I70 q15 = il [(5, 0), (4, 0)] := ((od70 q15 mq15).2 ne70).2.1.trans riq15
  have kq15 : C70 q15 = 25 := ((od70 q15 mq15).2 ne70).1.trans kq15
  have mq15 := (od70 q15 mq15).1
  have ne70 : z16_q7 ≠ q69 := ne_role kz16_q7 kq69 (by decide)
  have kz16_q7 : C70 z16_q7 = 47 := ((od70 z16_q7 mz16_q7).2 ne70).1.trans kz16_q7
  have mz16_q7 := (od70 z16_q7 mz16_q7).1
  have ne70 : z16_q3 ≠ q69 := ne_role kz16_q3 kq69 (by decide)
  have kz16_q3 : C70 z16_q3 = 46 := ((od70 z16_q3 mz16_q3).2 ne70).1.trans kz16_q3
  have mz16_q3 := (od70 z16_q3 mz16_q3).1
  have ne70 : z16_q1 ≠ q69 := ne_role kz16_q1 kq69 (by decide)
  have kz16_q1 : C70 z16_q1 = 45 := ((od70 z16_q1 mz16_q1).2 ne70).1.trans kz16_q1
  have mz16_q1 := (od70 z16_q1 mz16_q1).1
  have ne70 : q18 ≠ q69 := ne_role kq18 kq69 (by decide)
  have va_q18_2 : I70 q18 2 = 0 := (congrFun ((od70 q18 mq18).2 ne70).2.1 2).trans va_q18_2
  have kq18 : C70 q18 = 8 := ((od70 q18 mq18).2 ne70).1.trans kq18
  have mq18 := (od70 q18 mq18).1
  have ne70 : q21 ≠ q69 := ne_role kq21 kq69 (by decide)
  have kq21 : C70 q21 = 4 := ((od70 q21 mq21).2 ne70).1.trans kq21
  have mq21 := (od70 q21 mq21).1
  have ne70 : q24 ≠ q69 := ne_role kq24 kq69 (by decide)
  have kq24 : C70 q24 = 1 := ((od70 q24 mq24).2 ne70).1.trans kq24
  have mq24 := (od70 q24 mq24).1
  have ne70 : q27 ≠ q69 := ne_role kq27 kq69 (by decide)
  have kq27 : C70 q27 = 7 := ((od70 q27 mq27).2 ne70).1.trans kq27
  have mq27 := (od70 q27 mq27).1
  have ne70 : q30 ≠ q69 := ne_role kq30 kq69 (by decide)
  have kq30 : C70 q30 = 7 := ((od70 q30 mq30).2 ne70).1.trans kq30
  have mq30 := (od70 q30 mq30).1
  have ne70 : q33 ≠ q69 := ne_role kq33 kq69 (by decide)
  have kq33 : C70 q33 = 7 := ((od70 q33 mq33).2 ne70).1.trans kq33
  have mq33 := (od70 q33 mq33).1
  have ne70 : q36 ≠ q69 := ne_role kq36 kq69 (by decide)
  have kq36 : C70 q36 = 7 := ((od70 q36 mq36).2 ne70).1.trans kq36
  have mq36 := (od70 q36 mq36).1
  have ne70 : q39 ≠ q69 := ne_role kq39 kq69 (by decide)
  have kq39 : C70 q39 = 7 := ((od70 q39 mq39).2 ne70).1.trans kq39
  have mq39 := (od70 q39 mq39).1
  have ne70 : q42 ≠ q69 := ne_role kq42 kq69 (by decide)
  have kq42 : C70 q42 = 7 := ((od70 q42 mq42).2 ne70).1.trans kq42
  have mq42 := (od70 q42 mq42).1
  have ne70 : q45 ≠ q69 := ne_role kq45 kq69 (by decide)
  have kq45 : C70 q45 = 7 := ((od70 q45 mq45).2 ne70).1.trans kq45
  have mq45 := (od70 q45 mq45).1
  have ne70 : q48 ≠ q69 := ne_role kq48 kq69 (by decide)
  have kq48 : C70 q48 = 7 := ((od70 q48 mq48).2 ne70).1.trans kq48
  have mq48 := (od70 q48 mq48).1
  have ne70 : q51 ≠ q69 := ne_role kq51 kq69 (by decide)
  have kq51 : C70 q51 = 7 := ((od70 q51 mq51).2 ne70).1.trans kq51
  have mq51 := (od70 q51 mq51).1
  have ne70 : q54 ≠ q69 := ne_role kq54 kq69 (by decide)
  have kq54 : C70 q54 = 7 := ((od70 q54 mq54).2 ne70).1.trans kq54
  have mq54 := (od70 q54 mq54).1
  have ne70 : q57 ≠ q69 := ne_role kq57 kq69 (by decide)
  have kq57 : C70 q57 = 7 := ((od70 q57 mq57).2 ne70).1.trans kq57
  have mq57 := (od70 q57 mq57).1
  have ne70 : q60 ≠ q69 := ne_role kq60 kq69 (by decide)
  have kq60 : C70 q60 = 7 := ((od70 q60 mq60).2 ne70).1.trans kq60
  have mq60 := (od70 q60 mq60).1
  have ne70 : q63 ≠ q69 := ne_role kq63 kq69 (by decide)
  have kq63 : C70 q63 = 7 := ((od70 q63 mq63).2 ne70).1.trans kq63
  have mq63 := (od70 q63 mq63).1
  have ne70 : q66 ≠ q69 := ne_role kq66 kq69 (by decide)
  have kq66 : C70 q66 = 7 := ((od70 q66 mq66).2 ne70).1.trans kq66
  have mq66 := (od70 q66 mq66).1
  have kq69 : C70 q69 = 7 := kq70
  have mq69 := (od70 q69 mq69).1
  have old := old.ctor od70 nq69
  have kk : KK L70 C70 I70 R70 [0, 1, 2, 3, 4, 5, 6, 7, 8, 16, 17, 18, 19, 20, 21, 22, 23, 24, 25, 26, 32, 33, 34, 35, 36, 37, 38, 39, 40, 41, 42, 43, 44, 45, 46, 47, 48, 49, 50, 51, 52, 53, 54, 55, 56, 58, 59, 60] := kk.wS rfl
  refine st_60 hx hb hH mq13 kq13 (Rg_in (Rg_c (x := 14) (a := 14) (b := 14) (by decide)) (by decide)) mq69 kq69 rfl dX10_init_157 (fun R71 H locs eR71 hH => ?_)
  have rra0 : R71 a0 = rl [(8, q24), (7, q21), (6, q18), (5, q15), (4, q13), (3, q10), (2, q7), (1, q4), (0, q1)] := by rw [eR71, u2_ne (ne_role ka0 kq13 (by decide))]; exact rra0
  have rrq15 : R71 q15 = rl [(1, q13), (0, q10), (6, z16_q7), (3, z16_q3), (2, z16_q1)] := by rw [eR71, u2_ne (ne_role kq15 kq13 (by decide))]; exact rrq15
  have rrq13 : R71 q13 = rl [(14, q69), (13, q66), (12, q63), (11, q60), (10, q57), (9, q54), (8, q51), (7, q48), (6, q45), (5, q42), (4, q39), (3, q36), (2, q33), (1, q30), (0, q27)] := by rw [eR71]; exact rl_put rrq13
  have kk : KK L70 C70 I70 R71 [0, 1, 2, 3, 4, 5, 6, 7, 8, 16, 17, 18, 19, 20, 21, 22, 23, 24, 25, 26, 32, 33, 34, 35, 36, 37, 38, 39, 40, 41, 42, 43, 44, 45, 46, 47, 48, 49, 50, 51, 52, 53, 54, 55, 56, 58, 59, 60] := by rw [eR71]; exact kk.stR kq13 zr_60
  have old : Old L0 C0 (I0, J0, R0) a0 L70 C70 I70 J70 R71 := by rw [eR71]; exact old.stR (Or.inr nq13)
  refine lv_iinc (v := 15) (lv' := [(1, .int 15), (0, .ref a0)]) hx hb dX10_init_158 hl (k := 0) rfl (by decide) (by decide) rfl (fun ls hl => ?_)
  refine lv_goto (tgt := 139) hx hb dX10_init_161 (by decide) ?_
  refine lv_iload_n hx hb dX10_init_139 rfl (lv_at hl 0 rfl) ?_
  refine lv_bipush (v := 20) hx hb dX10_init_140 (by decide) ?_
  refine lv_icmp_ge (tgt := 164) hx hb dX10_init_142 (by decide) (fun q => absurd q (by decide)) (fun q => ?_)
  refine lv_aload_n hx hb dX10_init_145 rfl (lv_at hl 1 rfl) ?_
  refine gf_10_4 (b := q13) (by rw [rra0]; rfl) hx hb hts hown hH ma0 ka0 rfl kf_X10_41 dX10_init_146 ?_
  refine lv_iload_n hx hb dX10_init_149 rfl (lv_at hl 0 rfl) ?_
  refine hNew (ci := 7) (N := 2) hx hb hts hown hH inX7 tyX7_ok rfl (by decide) rfl df_7 kcl_X10_39 kinst_X7 kini_X7 (by decide) (by decide) dX10_init_150 (fun q72 L72 C72 I72 J72 R72 H g72 eI72 eJ72 eR72 hH => ?_)
  have nq72 : q72 ∉ L0 := fun h => g72.2.2 (old q72 h).1
  have rra0 : R72 a0 = rl [(8, q24), (7, q21), (6, q18), (5, q15), (4, q13), (3, q10), (2, q7), (1, q4), (0, q1)] := by rw [eR72, va_up_ne _ _ (g72.ne ma0)]; exact rra0
  have ria0 : I72 a0 = il [] := by rw [eI72, va_up_ne _ _ (g72.ne ma0)]; exact ria0
  have ka0 := g72.role ma0 ka0
  have ma0 := g72.mem ma0
  have kq1 := g72.role mq1 kq1
  have mq1 := g72.mem mq1
  have kq4 := g72.role mq4 kq4
  have mq4 := g72.mem mq4
  have kq7 := g72.role mq7 kq7
  have mq7 := g72.mem mq7
  have kq10 := g72.role mq10 kq10
  have mq10 := g72.mem mq10
  have rrq13 : R72 q13 = rl [(14, q69), (13, q66), (12, q63), (11, q60), (10, q57), (9, q54), (8, q51), (7, q48), (6, q45), (5, q42), (4, q39), (3, q36), (2, q33), (1, q30), (0, q27)] := by rw [eR72, va_up_ne _ _ (g72.ne mq13)]; exact rrq13
  have riq13 : I72 q13 = il [] := by rw [eI72, va_up_ne _ _ (g72.ne mq13)]; exact riq13
  have kq13 := g72.role mq13 kq13
  have mq13 := g72.mem mq13
  have rrq15 : R72 q15 = rl [(1, q13), (0, q10), (6, z16_q7), (3, z16_q3), (2, z16_q1)] := by rw [eR72, va_up_ne _ _ (g72.ne mq15)]; exact rrq15
  have riq15 : I72 q15 = il [(5, 0), (4, 0)] := by rw [eI72, va_up_ne _ _ (g72.ne mq15)]; exact riq15
  have kq15 := g72.role mq15 kq15
  have mq15 := g72.mem mq15
  have kz16_q7 := g72.role mz16_q7 kz16_q7
  have mz16_q7 := g72.mem mz16_q7
  have kz16_q3 := g72.role mz16_q3 kz16_q3
  have mz16_q3 := g72.mem mz16_q3
  have kz16_q1 := g72.role mz16_q1 kz16_q1
  have mz16_q1 := g72.mem mz16_q1
  have n0q18 := g72.ne mq18
  have kq18 := g72.role mq18 kq18
  have mq18 := g72.mem mq18
  have kq21 := g72.role mq21 kq21
  have mq21 := g72.mem mq21
  have kq24 := g72.role mq24 kq24
  have mq24 := g72.mem mq24
  have kq27 := g72.role mq27 kq27
  have mq27 := g72.mem mq27
  have kq30 := g72.role mq30 kq30
  have mq30 := g72.mem mq30
  have kq33 := g72.role mq33 kq33
  have mq33 := g72.mem mq33
  have kq36 := g72.role mq36 kq36
  have mq36 := g72.mem mq36
  have kq39 := g72.role mq39 kq39
  have mq39 := g72.mem mq39
  have kq42 := g72.role mq42 kq42
  have mq42 := g72.mem mq42
  have kq45 := g72.role mq45 kq45
  have mq45 := g72.mem mq45
  have kq48 := g72.role mq48 kq48
  have mq48 := g72.mem mq48
  have kq51 := g72.role mq51 kq51
  have mq51 := g72.mem mq51
  have kq54 := g72.role mq54 kq54
  have mq54 := g72.mem mq54
  have kq57 := g72.role mq57 kq57
  have mq57 := g72.mem mq57
  have kq60 := g72.role mq60 kq60
  have mq60 := g72.mem mq60
  have kq63 := g72.role mq63 kq63
  have mq63 := g72.mem mq63
  have kq66 := g72.role mq66 kq66
  have mq66 := g72.mem mq66
  have kq69 := g72.role mq69 kq69
  have mq69 := g72.mem mq69
  have mq72 := g72.new
  have kq72 := g72.at
  have va_q18_2 : I72 q18 2 = 0 := by rw [eI72, va_up_ne _ _ n0q18]; exact va_q18_2
  have rrq72 : R72 q72 = rl [] := by rw [eR72, va_up_self]; rfl
  have riq72 : I72 q72 = il [] := by rw [eI72, va_up_self]; rfl
  have kk := kk.new g72 eI72 eR72 zz_23 zr_23 (Or.inl rfl) (by decide)
  have old := old.new g72 eI72 eJ72 eR72
  refine lv_dup hx hb dX10_init_153 rfl ?_
  refine afA (va_runI (As := []) (rest := [.ref q72, .int 15, .ref q13]) ⟨hx, hb, hml, hown, hts⟩ (c_X7_init kk mq72 kq72 riq72 rrq72) ⟨callB_of 0 hts (wG_code kc_yX7_init) rfl rfl rfl (hts _ kini_X7) (hts _ km_X10_77) ⟨by decide, by decide, by decide +kernel⟩ ⟨by decide, by decide⟩, rfl, hts _ ki_yX7_init⟩ (preS hH) rfl rfl hl.1 rfl (lv_room (Nat.le_of_ble_eq_true rfl)) dX10_init_154 ⟨by decide, by decide⟩) hH (fun L73 C73 I73 J73 R73 H locs hp hH => ?_)
  obtain ⟨kk, od73, kq73⟩ := hp
  have ne73 : a0 ≠ q72 := ne_role ka0 kq72 (by decide)
  have rra0 : R73 a0 = rl [(8, q24), (7, q21), (6, q18), (5, q15), (4, q13), (3, q10), (2, q7), (1, q4), (0, q1)] := ((od73 a0 ma0).2 ne73).2.2.2.trans rra0
  have ria0 : I73 a0 = il [] := ((od73 a0 ma0).2 ne73).2.1.trans ria0
  have ka0 : C73 a0 = 26 := ((od73 a0 ma0).2 ne73).1.trans ka0
  have ma0 := (od73 a0 ma0).1
  have ne73 : q1 ≠ q72 := ne_role kq1 kq72 (by decide)
  have kq1 : C73 q1 = 6 := ((od73 q1 mq1).2 ne73).1.trans kq1
  have mq1 := (od73 q1 mq1).1
  have ne73 : q4 ≠ q72 := ne_role kq4 kq72 (by decide)
  have kq4 : C73 q4 = 0 := ((od73 q4 mq4).2 ne73).1.trans kq4
  have mq4 := (od73 q4 mq4).1
  have ne73 : q7 ≠ q72 := ne_role kq7 kq72 (by decide)
  have kq7 : C73 q7 = 2 := ((od73 q7 mq7).2 ne73).1.trans kq7
  have mq7 := (od73 q7 mq7).1
  have ne73 : q10 ≠ q72 := ne_role kq10 kq72 (by decide)
  have kq10 : C73 q10 = 3 := ((od73 q10 mq10).2 ne73).1.trans kq10
  have mq10 := (od73 q10 mq10).1
  have ne73 : q13 ≠ q72 := ne_role kq13 kq72 (by decide)
  have rrq13 : R73 q13 = rl [(14, q69), (13, q66), (12, q63), (11, q60), (10, q57), (9, q54), (8, q51), (7, q48), (6, q45), (5, q42), (4, q39), (3, q36), (2, q33), (1, q30), (0, q27)] := ((od73 q13 mq13).2 ne73).2.2.2.trans rrq13
  have riq13 : I73 q13 = il [] := ((od73 q13 mq13).2 ne73).2.1.trans riq13
  have kq13 : C73 q13 = 60 := ((od73 q13 mq13).2 ne73).1.trans kq13
  have mq13 := (od73 q13 mq13).1
  have ne73 : q15 ≠ q72 := ne_role kq15 kq72 (by decide)
  have rrq15 : R73 q15 = rl [(1, q13), (0, q10), (6, z16_q7), (3, z16_q3), (2, z16_q1)] := ((od73 q15 mq15).2 ne73).2.2.2.trans rrq15
  have riq15 : I73 q15 = il [(5, 0), (4, 0)] := ((od73 q15 mq15).2 ne73).2.1.trans riq15
  have kq15 : C73 q15 = 25 := ((od73 q15 mq15).2 ne73).1.trans kq15
  have mq15 := (od73 q15 mq15).1
  have ne73 : z16_q7 ≠ q72 := ne_role kz16_q7 kq72 (by decide)
  have kz16_q7 : C73 z16_q7 = 47 := ((od73 z16_q7 mz16_q7).2 ne73).1.trans kz16_q7
  have mz16_q7 := (od73 z16_q7 mz16_q7).1
  have ne73 : z16_q3 ≠ q72 := ne_role kz16_q3 kq72 (by decide)
  have kz16_q3 : C73 z16_q3 = 46 := ((od73 z16_q3 mz16_q3).2 ne73).1.trans kz16_q3
  have mz16_q3 := (od73 z16_q3 mz16_q3).1
  have ne73 : z16_q1 ≠ q72 := ne_role kz16_q1 kq72 (by decide)
  have kz16_q1 : C73 z16_q1 = 45 := ((od73 z16_q1 mz16_q1).2 ne73).1.trans kz16_q1
  have mz16_q1 := (od73 z16_q1 mz16_q1).1
  have ne73 : q18 ≠ q72 := ne_role kq18 kq72 (by decide)
  have va_q18_2 : I73 q18 2 = 0 := (congrFun ((od73 q18 mq18).2 ne73).2.1 2).trans va_q18_2
  have kq18 : C73 q18 = 8 := ((od73 q18 mq18).2 ne73).1.trans kq18
  have mq18 := (od73 q18 mq18).1
  have ne73 : q21 ≠ q72 := ne_role kq21 kq72 (by decide)
  have kq21 : C73 q21 = 4 := ((od73 q21 mq21).2 ne73).1.trans kq21
  have mq21 := (od73 q21 mq21).1
  have ne73 : q24 ≠ q72 := ne_role kq24 kq72 (by decide)
  have kq24 : C73 q24 = 1 := ((od73 q24 mq24).2 ne73).1.trans kq24
  have mq24 := (od73 q24 mq24).1
  have ne73 : q27 ≠ q72 := ne_role kq27 kq72 (by decide)
  have kq27 : C73 q27 = 7 := ((od73 q27 mq27).2 ne73).1.trans kq27
  have mq27 := (od73 q27 mq27).1
  have ne73 : q30 ≠ q72 := ne_role kq30 kq72 (by decide)
  have kq30 : C73 q30 = 7 := ((od73 q30 mq30).2 ne73).1.trans kq30
  have mq30 := (od73 q30 mq30).1
  have ne73 : q33 ≠ q72 := ne_role kq33 kq72 (by decide)
  have kq33 : C73 q33 = 7 := ((od73 q33 mq33).2 ne73).1.trans kq33
  have mq33 := (od73 q33 mq33).1
  have ne73 : q36 ≠ q72 := ne_role kq36 kq72 (by decide)
  have kq36 : C73 q36 = 7 := ((od73 q36 mq36).2 ne73).1.trans kq36
  have mq36 := (od73 q36 mq36).1
  have ne73 : q39 ≠ q72 := ne_role kq39 kq72 (by decide)
  have kq39 : C73 q39 = 7 := ((od73 q39 mq39).2 ne73).1.trans kq39
  have mq39 := (od73 q39 mq39).1
  have ne73 : q42 ≠ q72 := ne_role kq42 kq72 (by decide)
  have kq42 : C73 q42 = 7 := ((od73 q42 mq42).2 ne73).1.trans kq42
  have mq42 := (od73 q42 mq42).1
  have ne73 : q45 ≠ q72 := ne_role kq45 kq72 (by decide)
  have kq45 : C73 q45 = 7 := ((od73 q45 mq45).2 ne73).1.trans kq45
  have mq45 := (od73 q45 mq45).1
  have ne73 : q48 ≠ q72 := ne_role kq48 kq72 (by decide)
  have kq48 : C73 q48 = 7 := ((od73 q48 mq48).2 ne73).1.trans kq48
  have mq48 := (od73 q48 mq48).1
  have ne73 : q51 ≠ q72 := ne_role kq51 kq72 (by decide)
  have kq51 : C73 q51 = 7 := ((od73 q51 mq51).2 ne73).1.trans kq51
  have mq51 := (od73 q51 mq51).1
  have ne73 : q54 ≠ q72 := ne_role kq54 kq72 (by decide)
  have kq54 : C73 q54 = 7 := ((od73 q54 mq54).2 ne73).1.trans kq54
  have mq54 := (od73 q54 mq54).1
  have ne73 : q57 ≠ q72 := ne_role kq57 kq72 (by decide)
  have kq57 : C73 q57 = 7 := ((od73 q57 mq57).2 ne73).1.trans kq57
  have mq57 := (od73 q57 mq57).1
  have ne73 : q60 ≠ q72 := ne_role kq60 kq72 (by decide)
  have kq60 : C73 q60 = 7 := ((od73 q60 mq60).2 ne73).1.trans kq60
  have mq60 := (od73 q60 mq60).1
  have ne73 : q63 ≠ q72 := ne_role kq63 kq72 (by decide)
  have kq63 : C73 q63 = 7 := ((od73 q63 mq63).2 ne73).1.trans kq63
  have mq63 := (od73 q63 mq63).1
  have ne73 : q66 ≠ q72 := ne_role kq66 kq72 (by decide)
  have kq66 : C73 q66 = 7 := ((od73 q66 mq66).2 ne73).1.trans kq66
  have mq66 := (od73 q66 mq66).1
  have ne73 : q69 ≠ q72 := ne_role kq69 kq72 (by decide)
  have kq69 : C73 q69 = 7 := ((od73 q69 mq69).2 ne73).1.trans kq69
  have mq69 := (od73 q69 mq69).1
  have kq72 : C73 q72 = 7 := kq73
  have mq72 := (od73 q72 mq72).1
  have old := old.ctor od73 nq72
  have kk : KK L73 C73 I73 R73 [0, 1, 2, 3, 4, 5, 6, 7, 8, 16, 17, 18, 19, 20, 21, 22, 23, 24, 25, 26, 32, 33, 34, 35, 36, 37, 38, 39, 40, 41, 42, 43, 44, 45, 46, 47, 48, 49, 50, 51, 52, 53, 54, 55, 56, 58, 59, 60] := kk.wS rfl
  refine st_60 hx hb hH mq13 kq13 (Rg_in (Rg_c (x := 15) (a := 15) (b := 15) (by decide)) (by decide)) mq72 kq72 rfl dX10_init_157 (fun R74 H locs eR74 hH => ?_)
  have rra0 : R74 a0 = rl [(8, q24), (7, q21), (6, q18), (5, q15), (4, q13), (3, q10), (2, q7), (1, q4), (0, q1)] := by rw [eR74, u2_ne (ne_role ka0 kq13 (by decide))]; exact rra0
  have rrq15 : R74 q15 = rl [(1, q13), (0, q10), (6, z16_q7), (3, z16_q3), (2, z16_q1)] := by rw [eR74, u2_ne (ne_role kq15 kq13 (by decide))]; exact rrq15
  have rrq13 : R74 q13 = rl [(15, q72), (14, q69), (13, q66), (12, q63), (11, q60), (10, q57), (9, q54), (8, q51), (7, q48), (6, q45), (5, q42), (4, q39), (3, q36), (2, q33), (1, q30), (0, q27)] := by rw [eR74]; exact rl_put rrq13
  have kk : KK L73 C73 I73 R74 [0, 1, 2, 3, 4, 5, 6, 7, 8, 16, 17, 18, 19, 20, 21, 22, 23, 24, 25, 26, 32, 33, 34, 35, 36, 37, 38, 39, 40, 41, 42, 43, 44, 45, 46, 47, 48, 49, 50, 51, 52, 53, 54, 55, 56, 58, 59, 60] := by rw [eR74]; exact kk.stR kq13 zr_60
  have old : Old L0 C0 (I0, J0, R0) a0 L73 C73 I73 J73 R74 := by rw [eR74]; exact old.stR (Or.inr nq13)
  refine lv_iinc (v := 16) (lv' := [(1, .int 16), (0, .ref a0)]) hx hb dX10_init_158 hl (k := 0) rfl (by decide) (by decide) rfl (fun ls hl => ?_)
  refine lv_goto (tgt := 139) hx hb dX10_init_161 (by decide) ?_
  refine lv_iload_n hx hb dX10_init_139 rfl (lv_at hl 0 rfl) ?_
  refine lv_bipush (v := 20) hx hb dX10_init_140 (by decide) ?_
  refine lv_icmp_ge (tgt := 164) hx hb dX10_init_142 (by decide) (fun q => absurd q (by decide)) (fun q => ?_)
  refine lv_aload_n hx hb dX10_init_145 rfl (lv_at hl 1 rfl) ?_
  refine gf_10_4 (b := q13) (by rw [rra0]; rfl) hx hb hts hown hH ma0 ka0 rfl kf_X10_41 dX10_init_146 ?_
  refine lv_iload_n hx hb dX10_init_149 rfl (lv_at hl 0 rfl) ?_
  refine hNew (ci := 7) (N := 2) hx hb hts hown hH inX7 tyX7_ok rfl (by decide) rfl df_7 kcl_X10_39 kinst_X7 kini_X7 (by decide) (by decide) dX10_init_150 (fun q75 L75 C75 I75 J75 R75 H g75 eI75 eJ75 eR75 hH => ?_)
  have nq75 : q75 ∉ L0 := fun h => g75.2.2 (old q75 h).1
  have rra0 : R75 a0 = rl [(8, q24), (7, q21), (6, q18), (5, q15), (4, q13), (3, q10), (2, q7), (1, q4), (0, q1)] := by rw [eR75, va_up_ne _ _ (g75.ne ma0)]; exact rra0
  have ria0 : I75 a0 = il [] := by rw [eI75, va_up_ne _ _ (g75.ne ma0)]; exact ria0
  have ka0 := g75.role ma0 ka0
  have ma0 := g75.mem ma0
  have kq1 := g75.role mq1 kq1
  have mq1 := g75.mem mq1
  have kq4 := g75.role mq4 kq4
  have mq4 := g75.mem mq4
  have kq7 := g75.role mq7 kq7
  have mq7 := g75.mem mq7
  have kq10 := g75.role mq10 kq10
  have mq10 := g75.mem mq10
  have rrq13 : R75 q13 = rl [(15, q72), (14, q69), (13, q66), (12, q63), (11, q60), (10, q57), (9, q54), (8, q51), (7, q48), (6, q45), (5, q42), (4, q39), (3, q36), (2, q33), (1, q30), (0, q27)] := by rw [eR75, va_up_ne _ _ (g75.ne mq13)]; exact rrq13
  have riq13 : I75 q13 = il [] := by rw [eI75, va_up_ne _ _ (g75.ne mq13)]; exact riq13
  have kq13 := g75.role mq13 kq13
  have mq13 := g75.mem mq13
  have rrq15 : R75 q15 = rl [(1, q13), (0, q10), (6, z16_q7), (3, z16_q3), (2, z16_q1)] := by rw [eR75, va_up_ne _ _ (g75.ne mq15)]; exact rrq15
  have riq15 : I75 q15 = il [(5, 0), (4, 0)] := by rw [eI75, va_up_ne _ _ (g75.ne mq15)]; exact riq15
  have kq15 := g75.role mq15 kq15
  have mq15 := g75.mem mq15
  have kz16_q7 := g75.role mz16_q7 kz16_q7
  have mz16_q7 := g75.mem mz16_q7
  have kz16_q3 := g75.role mz16_q3 kz16_q3
  have mz16_q3 := g75.mem mz16_q3
  have kz16_q1 := g75.role mz16_q1 kz16_q1
  have mz16_q1 := g75.mem mz16_q1
  have n0q18 := g75.ne mq18
  have kq18 := g75.role mq18 kq18
  have mq18 := g75.mem mq18
  have kq21 := g75.role mq21 kq21
  have mq21 := g75.mem mq21
  have kq24 := g75.role mq24 kq24
  have mq24 := g75.mem mq24
  have kq27 := g75.role mq27 kq27
  have mq27 := g75.mem mq27
  have kq30 := g75.role mq30 kq30
  have mq30 := g75.mem mq30
  have kq33 := g75.role mq33 kq33
  have mq33 := g75.mem mq33
  have kq36 := g75.role mq36 kq36
  have mq36 := g75.mem mq36
  have kq39 := g75.role mq39 kq39
  have mq39 := g75.mem mq39
  have kq42 := g75.role mq42 kq42
  have mq42 := g75.mem mq42
  have kq45 := g75.role mq45 kq45
  have mq45 := g75.mem mq45
  have kq48 := g75.role mq48 kq48
  have mq48 := g75.mem mq48
  have kq51 := g75.role mq51 kq51
  have mq51 := g75.mem mq51
  have kq54 := g75.role mq54 kq54
  have mq54 := g75.mem mq54
  have kq57 := g75.role mq57 kq57
  have mq57 := g75.mem mq57
  have kq60 := g75.role mq60 kq60
  have mq60 := g75.mem mq60
  have kq63 := g75.role mq63 kq63
  have mq63 := g75.mem mq63
  have kq66 := g75.role mq66 kq66
  have mq66 := g75.mem mq66
  have kq69 := g75.role mq69 kq69
  have mq69 := g75.mem mq69
  have kq72 := g75.role mq72 kq72
  have mq72 := g75.mem mq72
  have mq75 := g75.new
  have kq75 := g75.at
  have va_q18_2 : I75 q18 2 = 0 := by rw [eI75, va_up_ne _ _ n0q18]; exact va_q18_2
  have rrq75 : R75 q75 = rl [] := by rw [eR75, va_up_self]; rfl
  have riq75 : I75 q75 = il [] := by rw [eI75, va_up_self]; rfl
  have kk := kk.new g75 eI75 eR75 zz_23 zr_23 (Or.inl rfl) (by decide)
  have old := old.new g75 eI75 eJ75 eR75
  refine lv_dup hx hb dX10_init_153 rfl ?_
  refine afA (va_runI (As := []) (rest := [.ref q75, .int 16, .ref q13]) ⟨hx, hb, hml, hown, hts⟩ (c_X7_init kk mq75 kq75 riq75 rrq75) ⟨callB_of 0 hts (wG_code kc_yX7_init) rfl rfl rfl (hts _ kini_X7) (hts _ km_X10_77) ⟨by decide, by decide, by decide +kernel⟩ ⟨by decide, by decide⟩, rfl, hts _ ki_yX7_init⟩ (preS hH) rfl rfl hl.1 rfl (lv_room (Nat.le_of_ble_eq_true rfl)) dX10_init_154 ⟨by decide, by decide⟩) hH (fun L76 C76 I76 J76 R76 H locs hp hH => ?_)
  obtain ⟨kk, od76, kq76⟩ := hp
  have ne76 : a0 ≠ q75 := ne_role ka0 kq75 (by decide)
  have rra0 : R76 a0 = rl [(8, q24), (7, q21), (6, q18), (5, q15), (4, q13), (3, q10), (2, q7), (1, q4), (0, q1)] := ((od76 a0 ma0).2 ne76).2.2.2.trans rra0
  have ria0 : I76 a0 = il [] := ((od76 a0 ma0).2 ne76).2.1.trans ria0
  have ka0 : C76 a0 = 26 := ((od76 a0 ma0).2 ne76).1.trans ka0
  have ma0 := (od76 a0 ma0).1
  have ne76 : q1 ≠ q75 := ne_role kq1 kq75 (by decide)
  have kq1 : C76 q1 = 6 := ((od76 q1 mq1).2 ne76).1.trans kq1
  have mq1 := (od76 q1 mq1).1
  have ne76 : q4 ≠ q75 := ne_role kq4 kq75 (by decide)
  have kq4 : C76 q4 = 0 := ((od76 q4 mq4).2 ne76).1.trans kq4
  have mq4 := (od76 q4 mq4).1
  have ne76 : q7 ≠ q75 := ne_role kq7 kq75 (by decide)
  have kq7 : C76 q7 = 2 := ((od76 q7 mq7).2 ne76).1.trans kq7
  have mq7 := (od76 q7 mq7).1
  have ne76 : q10 ≠ q75 := ne_role kq10 kq75 (by decide)
  have kq10 : C76 q10 = 3 := ((od76 q10 mq10).2 ne76).1.trans kq10
  have mq10 := (od76 q10 mq10).1
  have ne76 : q13 ≠ q75 := ne_role kq13 kq75 (by decide)
  have rrq13 : R76 q13 = rl [(15, q72), (14, q69), (13, q66), (12, q63), (11, q60), (10, q57), (9, q54), (8, q51), (7, q48), (6, q45), (5, q42), (4, q39), (3, q36), (2, q33), (1, q30), (0, q27)] := ((od76 q13 mq13).2 ne76).2.2.2.trans rrq13
  have riq13 : I76 q13 = il [] := ((od76 q13 mq13).2 ne76).2.1.trans riq13
  have kq13 : C76 q13 = 60 := ((od76 q13 mq13).2 ne76).1.trans kq13
  have mq13 := (od76 q13 mq13).1
  have ne76 : q15 ≠ q75 := ne_role kq15 kq75 (by decide)
  have rrq15 : R76 q15 = rl [(1, q13), (0, q10), (6, z16_q7), (3, z16_q3), (2, z16_q1)] := ((od76 q15 mq15).2 ne76).2.2.2.trans rrq15
  have riq15 : I76 q15 = il [(5, 0), (4, 0)] := ((od76 q15 mq15).2 ne76).2.1.trans riq15
  have kq15 : C76 q15 = 25 := ((od76 q15 mq15).2 ne76).1.trans kq15
  have mq15 := (od76 q15 mq15).1
  have ne76 : z16_q7 ≠ q75 := ne_role kz16_q7 kq75 (by decide)
  have kz16_q7 : C76 z16_q7 = 47 := ((od76 z16_q7 mz16_q7).2 ne76).1.trans kz16_q7
  have mz16_q7 := (od76 z16_q7 mz16_q7).1
  have ne76 : z16_q3 ≠ q75 := ne_role kz16_q3 kq75 (by decide)
  have kz16_q3 : C76 z16_q3 = 46 := ((od76 z16_q3 mz16_q3).2 ne76).1.trans kz16_q3
  have mz16_q3 := (od76 z16_q3 mz16_q3).1
  have ne76 : z16_q1 ≠ q75 := ne_role kz16_q1 kq75 (by decide)
  have kz16_q1 : C76 z16_q1 = 45 := ((od76 z16_q1 mz16_q1).2 ne76).1.trans kz16_q1
  have mz16_q1 := (od76 z16_q1 mz16_q1).1
  have ne76 : q18 ≠ q75 := ne_role kq18 kq75 (by decide)
  have va_q18_2 : I76 q18 2 = 0 := (congrFun ((od76 q18 mq18).2 ne76).2.1 2).trans va_q18_2
  have kq18 : C76 q18 = 8 := ((od76 q18 mq18).2 ne76).1.trans kq18
  have mq18 := (od76 q18 mq18).1
  have ne76 : q21 ≠ q75 := ne_role kq21 kq75 (by decide)
  have kq21 : C76 q21 = 4 := ((od76 q21 mq21).2 ne76).1.trans kq21
  have mq21 := (od76 q21 mq21).1
  have ne76 : q24 ≠ q75 := ne_role kq24 kq75 (by decide)
  have kq24 : C76 q24 = 1 := ((od76 q24 mq24).2 ne76).1.trans kq24
  have mq24 := (od76 q24 mq24).1
  have ne76 : q27 ≠ q75 := ne_role kq27 kq75 (by decide)
  have kq27 : C76 q27 = 7 := ((od76 q27 mq27).2 ne76).1.trans kq27
  have mq27 := (od76 q27 mq27).1
  have ne76 : q30 ≠ q75 := ne_role kq30 kq75 (by decide)
  have kq30 : C76 q30 = 7 := ((od76 q30 mq30).2 ne76).1.trans kq30
  have mq30 := (od76 q30 mq30).1
  have ne76 : q33 ≠ q75 := ne_role kq33 kq75 (by decide)
  have kq33 : C76 q33 = 7 := ((od76 q33 mq33).2 ne76).1.trans kq33
  have mq33 := (od76 q33 mq33).1
  have ne76 : q36 ≠ q75 := ne_role kq36 kq75 (by decide)
  have kq36 : C76 q36 = 7 := ((od76 q36 mq36).2 ne76).1.trans kq36
  have mq36 := (od76 q36 mq36).1
  have ne76 : q39 ≠ q75 := ne_role kq39 kq75 (by decide)
  have kq39 : C76 q39 = 7 := ((od76 q39 mq39).2 ne76).1.trans kq39
  have mq39 := (od76 q39 mq39).1
  have ne76 : q42 ≠ q75 := ne_role kq42 kq75 (by decide)
  have kq42 : C76 q42 = 7 := ((od76 q42 mq42).2 ne76).1.trans kq42
  have mq42 := (od76 q42 mq42).1
  have ne76 : q45 ≠ q75 := ne_role kq45 kq75 (by decide)
  have kq45 : C76 q45 = 7 := ((od76 q45 mq45).2 ne76).1.trans kq45
  have mq45 := (od76 q45 mq45).1
  have ne76 : q48 ≠ q75 := ne_role kq48 kq75 (by decide)
  have kq48 : C76 q48 = 7 := ((od76 q48 mq48).2 ne76).1.trans kq48
  have mq48 := (od76 q48 mq48).1
  have ne76 : q51 ≠ q75 := ne_role kq51 kq75 (by decide)
  have kq51 : C76 q51 = 7 := ((od76 q51 mq51).2 ne76).1.trans kq51
  have mq51 := (od76 q51 mq51).1
  have ne76 : q54 ≠ q75 := ne_role kq54 kq75 (by decide)
  have kq54 : C76 q54 = 7 := ((od76 q54 mq54).2 ne76).1.trans kq54
  have mq54 := (od76 q54 mq54).1
  have ne76 : q57 ≠ q75 := ne_role kq57 kq75 (by decide)
  have kq57 : C76 q57 = 7 := ((od76 q57 mq57).2 ne76).1.trans kq57
  have mq57 := (od76 q57 mq57).1
  have ne76 : q60 ≠ q75 := ne_role kq60 kq75 (by decide)
  have kq60 : C76 q60 = 7 := ((od76 q60 mq60).2 ne76).1.trans kq60
  have mq60 := (od76 q60 mq60).1
  have ne76 : q63 ≠ q75 := ne_role kq63 kq75 (by decide)
  have kq63 : C76 q63 = 7 := ((od76 q63 mq63).2 ne76).1.trans kq63
  have mq63 := (od76 q63 mq63).1
  have ne76 : q66 ≠ q75 := ne_role kq66 kq75 (by decide)
  have kq66 : C76 q66 = 7 := ((od76 q66 mq66).2 ne76).1.trans kq66
  have mq66 := (od76 q66 mq66).1
  have ne76 : q69 ≠ q75 := ne_role kq69 kq75 (by decide)
  have kq69 : C76 q69 = 7 := ((od76 q69 mq69).2 ne76).1.trans kq69
  have mq69 := (od76 q69 mq69).1
  have ne76 : q72 ≠ q75 := ne_role kq72 kq75 (by decide)
  have kq72 : C76 q72 = 7 := ((od76 q72 mq72).2 ne76).1.trans kq72
  have mq72 := (od76 q72 mq72).1
  have kq75 : C76 q75 = 7 := kq76
  have mq75 := (od76 q75 mq75).1
  have old := old.ctor od76 nq75
  have kk : KK L76 C76 I76 R76 [0, 1, 2, 3, 4, 5, 6, 7, 8, 16, 17, 18, 19, 20, 21, 22, 23, 24, 25, 26, 32, 33, 34, 35, 36, 37, 38, 39, 40, 41, 42, 43, 44, 45, 46, 47, 48, 49, 50, 51, 52, 53, 54, 55, 56, 58, 59, 60] := kk.wS rfl
  refine st_60 hx hb hH mq13 kq13 (Rg_in (Rg_c (x := 16) (a := 16) (b := 16) (by decide)) (by decide)) mq75 kq75 rfl dX10_init_157 (fun R77 H locs eR77 hH => ?_)
  have rra0 : R77 a0 = rl [(8, q24), (7, q21), (6, q18), (5, q15), (4, q13), (3, q10), (2, q7), (1, q4), (0, q1)] := by rw [eR77, u2_ne (ne_role ka0 kq13 (by decide))]; exact rra0
  have rrq15 : R77 q15 = rl [(1, q13), (0, q10), (6, z16_q7), (3, z16_q3), (2, z16_q1)] := by rw [eR77, u2_ne (ne_role kq15 kq13 (by decide))]; exact rrq15
  have rrq13 : R77 q13 = rl [(16, q75), (15, q72), (14, q69), (13, q66), (12, q63), (11, q60), (10, q57), (9, q54), (8, q51), (7, q48), (6, q45), (5, q42), (4, q39), (3, q36), (2, q33), (1, q30), (0, q27)] := by rw [eR77]; exact rl_put rrq13
  have kk : KK L76 C76 I76 R77 [0, 1, 2, 3, 4, 5, 6, 7, 8, 16, 17, 18, 19, 20, 21, 22, 23, 24, 25, 26, 32, 33, 34, 35, 36, 37, 38, 39, 40, 41, 42, 43, 44, 45, 46, 47, 48, 49, 50, 51, 52, 53, 54, 55, 56, 58, 59, 60] := by rw [eR77]; exact kk.stR kq13 zr_60
  have old : Old L0 C0 (I0, J0, R0) a0 L76 C76 I76 J76 R77 := by rw [eR77]; exact old.stR (Or.inr nq13)
  refine lv_iinc (v := 17) (lv' := [(1, .int 17), (0, .ref a0)]) hx hb dX10_init_158 hl (k := 0) rfl (by decide) (by decide) rfl (fun ls hl => ?_)
  refine lv_goto (tgt := 139) hx hb dX10_init_161 (by decide) ?_
  refine lv_iload_n hx hb dX10_init_139 rfl (lv_at hl 0 rfl) ?_
  refine lv_bipush (v := 20) hx hb dX10_init_140 (by decide) ?_
  refine lv_icmp_ge (tgt := 164) hx hb dX10_init_142 (by decide) (fun q => absurd q (by decide)) (fun q => ?_)
  refine lv_aload_n hx hb dX10_init_145 rfl (lv_at hl 1 rfl) ?_
  refine gf_10_4 (b := q13) (by rw [rra0]; rfl) hx hb hts hown hH ma0 ka0 rfl kf_X10_41 dX10_init_146 ?_
  refine lv_iload_n hx hb dX10_init_149 rfl (lv_at hl 0 rfl) ?_
  refine hNew (ci := 7) (N := 2) hx hb hts hown hH inX7 tyX7_ok rfl (by decide) rfl df_7 kcl_X10_39 kinst_X7 kini_X7 (by decide) (by decide) dX10_init_150 (fun q78 L78 C78 I78 J78 R78 H g78 eI78 eJ78 eR78 hH => ?_)
  have nq78 : q78 ∉ L0 := fun h => g78.2.2 (old q78 h).1
  have rra0 : R78 a0 = rl [(8, q24), (7, q21), (6, q18), (5, q15), (4, q13), (3, q10), (2, q7), (1, q4), (0, q1)] := by rw [eR78, va_up_ne _ _ (g78.ne ma0)]; exact rra0
  have ria0 : I78 a0 = il [] := by rw [eI78, va_up_ne _ _ (g78.ne ma0)]; exact ria0
  have ka0 := g78.role ma0 ka0
  have ma0 := g78.mem ma0
  have kq1 := g78.role mq1 kq1
  have mq1 := g78.mem mq1
  have kq4 := g78.role mq4 kq4
  have mq4 := g78.mem mq4
  have kq7 := g78.role mq7 kq7
  have mq7 := g78.mem mq7
  have kq10 := g78.role mq10 kq10
  have mq10 := g78.mem mq10
  have rrq13 : R78 q13 = rl [(16, q75), (15, q72), (14, q69), (13, q66), (12, q63), (11, q60), (10, q57), (9, q54), (8, q51), (7, q48), (6, q45), (5, q42), (4, q39), (3, q36), (2, q33), (1, q30), (0, q27)] := by rw [eR78, va_up_ne _ _ (g78.ne mq13)]; exact rrq13
  have riq13 : I78 q13 = il [] := by rw [eI78, va_up_ne _ _ (g78.ne mq13)]; exact riq13
  have kq13 := g78.role mq13 kq13
  have mq13 := g78.mem mq13
  have rrq15 : R78 q15 = rl [(1, q13), (0, q10), (6, z16_q7), (3, z16_q3), (2, z16_q1)] := by rw [eR78, va_up_ne _ _ (g78.ne mq15)]; exact rrq15
  have riq15 : I78 q15 = il [(5, 0), (4, 0)] := by rw [eI78, va_up_ne _ _ (g78.ne mq15)]; exact riq15
  have kq15 := g78.role mq15 kq15
  have mq15 := g78.mem mq15
  have kz16_q7 := g78.role mz16_q7 kz16_q7
  have mz16_q7 := g78.mem mz16_q7
  have kz16_q3 := g78.role mz16_q3 kz16_q3
  have mz16_q3 := g78.mem mz16_q3
  have kz16_q1 := g78.role mz16_q1 kz16_q1
  have mz16_q1 := g78.mem mz16_q1
  have n0q18 := g78.ne mq18
  have kq18 := g78.role mq18 kq18
  have mq18 := g78.mem mq18
  have kq21 := g78.role mq21 kq21
  have mq21 := g78.mem mq21
  have kq24 := g78.role mq24 kq24
  have mq24 := g78.mem mq24
  have kq27 := g78.role mq27 kq27
  have mq27 := g78.mem mq27
  have kq30 := g78.role mq30 kq30
  have mq30 := g78.mem mq30
  have kq33 := g78.role mq33 kq33
  have mq33 := g78.mem mq33
  have kq36 := g78.role mq36 kq36
  have mq36 := g78.mem mq36
  have kq39 := g78.role mq39 kq39
  have mq39 := g78.mem mq39
  have kq42 := g78.role mq42 kq42
  have mq42 := g78.mem mq42
  have kq45 := g78.role mq45 kq45
  have mq45 := g78.mem mq45
  have kq48 := g78.role mq48 kq48
  have mq48 := g78.mem mq48
  have kq51 := g78.role mq51 kq51
  have mq51 := g78.mem mq51
  have kq54 := g78.role mq54 kq54
  have mq54 := g78.mem mq54
  have kq57 := g78.role mq57 kq57
  have mq57 := g78.mem mq57
  have kq60 := g78.role mq60 kq60
  have mq60 := g78.mem mq60
  have kq63 := g78.role mq63 kq63
  have mq63 := g78.mem mq63
  have kq66 := g78.role mq66 kq66
  have mq66 := g78.mem mq66
  have kq69 := g78.role mq69 kq69
  have mq69 := g78.mem mq69
  have kq72 := g78.role mq72 kq72
  have mq72 := g78.mem mq72
  have kq75 := g78.role mq75 kq75
  have mq75 := g78.mem mq75
  have mq78 := g78.new
  have kq78 := g78.at
  have va_q18_2 : I78 q18 2 = 0 := by rw [eI78, va_up_ne _ _ n0q18]; exact va_q18_2
  have rrq78 : R78 q78 = rl [] := by rw [eR78, va_up_self]; rfl
  have riq78 : I78 q78 = il [] := by rw [eI78, va_up_self]; rfl
  have kk := kk.new g78 eI78 eR78 zz_23 zr_23 (Or.inl rfl) (by decide)
  have old := old.new g78 eI78 eJ78 eR78
  refine lv_dup hx hb dX10_init_153 rfl ?_
  refine afA (va_runI (As := []) (rest := [.ref q78, .int 17, .ref q13]) ⟨hx, hb, hml, hown, hts⟩ (c_X7_init kk mq78 kq78 riq78 rrq78) ⟨callB_of 0 hts (wG_code kc_yX7_init) rfl rfl rfl (hts _ kini_X7) (hts _ km_X10_77) ⟨by decide, by decide, by decide +kernel⟩ ⟨by decide, by decide⟩, rfl, hts _ ki_yX7_init⟩ (preS hH) rfl rfl hl.1 rfl (lv_room (Nat.le_of_ble_eq_true rfl)) dX10_init_154 ⟨by decide, by decide⟩) hH (fun L79 C79 I79 J79 R79 H locs hp hH => ?_)
  obtain ⟨kk, od79, kq79⟩ := hp
  have ne79 : a0 ≠ q78 := ne_role ka0 kq78 (by decide)
  have rra0 : R79 a0 = rl [(8, q24), (7, q21), (6, q18), (5, q15), (4, q13), (3, q10), (2, q7), (1, q4), (0, q1)] := ((od79 a0 ma0).2 ne79).2.2.2.trans rra0
  have ria0 : I79 a0 = il [] := ((od79 a0 ma0).2 ne79).2.1.trans ria0
  have ka0 : C79 a0 = 26 := ((od79 a0 ma0).2 ne79).1.trans ka0
  have ma0 := (od79 a0 ma0).1
  have ne79 : q1 ≠ q78 := ne_role kq1 kq78 (by decide)
  have kq1 : C79 q1 = 6 := ((od79 q1 mq1).2 ne79).1.trans kq1
  have mq1 := (od79 q1 mq1).1
  have ne79 : q4 ≠ q78 := ne_role kq4 kq78 (by decide)
  have kq4 : C79 q4 = 0 := ((od79 q4 mq4).2 ne79).1.trans kq4
  have mq4 := (od79 q4 mq4).1
  have ne79 : q7 ≠ q78 := ne_role kq7 kq78 (by decide)
  have kq7 : C79 q7 = 2 := ((od79 q7 mq7).2 ne79).1.trans kq7
  have mq7 := (od79 q7 mq7).1
  have ne79 : q10 ≠ q78 := ne_role kq10 kq78 (by decide)
  have kq10 : C79 q10 = 3 := ((od79 q10 mq10).2 ne79).1.trans kq10
  have mq10 := (od79 q10 mq10).1
  have ne79 : q13 ≠ q78 := ne_role kq13 kq78 (by decide)
  have rrq13 : R79 q13 = rl [(16, q75), (15, q72), (14, q69), (13, q66), (12, q63), (11, q60), (10, q57), (9, q54), (8, q51), (7, q48), (6, q45), (5, q42), (4, q39), (3, q36), (2, q33), (1, q30), (0, q27)] := ((od79 q13 mq13).2 ne79).2.2.2.trans rrq13
  have riq13 : I79 q13 = il [] := ((od79 q13 mq13).2 ne79).2.1.trans riq13
  have kq13 : C79 q13 = 60 := ((od79 q13 mq13).2 ne79).1.trans kq13
  have mq13 := (od79 q13 mq13).1
  have ne79 : q15 ≠ q78 := ne_role kq15 kq78 (by decide)
  have rrq15 : R79 q15 = rl [(1, q13), (0, q10), (6, z16_q7), (3, z16_q3), (2, z16_q1)] := ((od79 q15 mq15).2 ne79).2.2.2.trans rrq15
  have riq15 : I79 q15 = il [(5, 0), (4, 0)] := ((od79 q15 mq15).2 ne79).2.1.trans riq15
  have kq15 : C79 q15 = 25 := ((od79 q15 mq15).2 ne79).1.trans kq15
  have mq15 := (od79 q15 mq15).1
  have ne79 : z16_q7 ≠ q78 := ne_role kz16_q7 kq78 (by decide)
  have kz16_q7 : C79 z16_q7 = 47 := ((od79 z16_q7 mz16_q7).2 ne79).1.trans kz16_q7
  have mz16_q7 := (od79 z16_q7 mz16_q7).1
  have ne79 : z16_q3 ≠ q78 := ne_role kz16_q3 kq78 (by decide)
  have kz16_q3 : C79 z16_q3 = 46 := ((od79 z16_q3 mz16_q3).2 ne79).1.trans kz16_q3
  have mz16_q3 := (od79 z16_q3 mz16_q3).1
  have ne79 : z16_q1 ≠ q78 := ne_role kz16_q1 kq78 (by decide)
  have kz16_q1 : C79 z16_q1 = 45 := ((od79 z16_q1 mz16_q1).2 ne79).1.trans kz16_q1
  have mz16_q1 := (od79 z16_q1 mz16_q1).1
  have ne79 : q18 ≠ q78 := ne_role kq18 kq78 (by decide)
  have va_q18_2 : I79 q18 2 = 0 := (congrFun ((od79 q18 mq18).2 ne79).2.1 2).trans va_q18_2
  have kq18 : C79 q18 = 8 := ((od79 q18 mq18).2 ne79).1.trans kq18
  have mq18 := (od79 q18 mq18).1
  have ne79 : q21 ≠ q78 := ne_role kq21 kq78 (by decide)
  have kq21 : C79 q21 = 4 := ((od79 q21 mq21).2 ne79).1.trans kq21
  have mq21 := (od79 q21 mq21).1
  have ne79 : q24 ≠ q78 := ne_role kq24 kq78 (by decide)
  have kq24 : C79 q24 = 1 := ((od79 q24 mq24).2 ne79).1.trans kq24
  have mq24 := (od79 q24 mq24).1
  have ne79 : q27 ≠ q78 := ne_role kq27 kq78 (by decide)
  have kq27 : C79 q27 = 7 := ((od79 q27 mq27).2 ne79).1.trans kq27
  have mq27 := (od79 q27 mq27).1
  have ne79 : q30 ≠ q78 := ne_role kq30 kq78 (by decide)
  have kq30 : C79 q30 = 7 := ((od79 q30 mq30).2 ne79).1.trans kq30
  have mq30 := (od79 q30 mq30).1
  have ne79 : q33 ≠ q78 := ne_role kq33 kq78 (by decide)
  have kq33 : C79 q33 = 7 := ((od79 q33 mq33).2 ne79).1.trans kq33
  have mq33 := (od79 q33 mq33).1
  have ne79 : q36 ≠ q78 := ne_role kq36 kq78 (by decide)
  have kq36 : C79 q36 = 7 := ((od79 q36 mq36).2 ne79).1.trans kq36
  have mq36 := (od79 q36 mq36).1
  have ne79 : q39 ≠ q78 := ne_role kq39 kq78 (by decide)
  have kq39 : C79 q39 = 7 := ((od79 q39 mq39).2 ne79).1.trans kq39
  have mq39 := (od79 q39 mq39).1
  have ne79 : q42 ≠ q78 := ne_role kq42 kq78 (by decide)
  have kq42 : C79 q42 = 7 := ((od79 q42 mq42).2 ne79).1.trans kq42
  have mq42 := (od79 q42 mq42).1
  have ne79 : q45 ≠ q78 := ne_role kq45 kq78 (by decide)
  have kq45 : C79 q45 = 7 := ((od79 q45 mq45).2 ne79).1.trans kq45
  have mq45 := (od79 q45 mq45).1
  have ne79 : q48 ≠ q78 := ne_role kq48 kq78 (by decide)
  have kq48 : C79 q48 = 7 := ((od79 q48 mq48).2 ne79).1.trans kq48
  have mq48 := (od79 q48 mq48).1
  have ne79 : q51 ≠ q78 := ne_role kq51 kq78 (by decide)
  have kq51 : C79 q51 = 7 := ((od79 q51 mq51).2 ne79).1.trans kq51
  have mq51 := (od79 q51 mq51).1
  have ne79 : q54 ≠ q78 := ne_role kq54 kq78 (by decide)
  have kq54 : C79 q54 = 7 := ((od79 q54 mq54).2 ne79).1.trans kq54
  have mq54 := (od79 q54 mq54).1
  have ne79 : q57 ≠ q78 := ne_role kq57 kq78 (by decide)
  have kq57 : C79 q57 = 7 := ((od79 q57 mq57).2 ne79).1.trans kq57
  have mq57 := (od79 q57 mq57).1
  have ne79 : q60 ≠ q78 := ne_role kq60 kq78 (by decide)
  have kq60 : C79 q60 = 7 := ((od79 q60 mq60).2 ne79).1.trans kq60
  have mq60 := (od79 q60 mq60).1
  have ne79 : q63 ≠ q78 := ne_role kq63 kq78 (by decide)
  have kq63 : C79 q63 = 7 := ((od79 q63 mq63).2 ne79).1.trans kq63
  have mq63 := (od79 q63 mq63).1
  have ne79 : q66 ≠ q78 := ne_role kq66 kq78 (by decide)
  have kq66 : C79 q66 = 7 := ((od79 q66 mq66).2 ne79).1.trans kq66
  have mq66 := (od79 q66 mq66).1
  have ne79 : q69 ≠ q78 := ne_role kq69 kq78 (by decide)
  have kq69 : C79 q69 = 7 := ((od79 q69 mq69).2 ne79).1.trans kq69
  have mq69 := (od79 q69 mq69).1
  have ne79 : q72 ≠ q78 := ne_role kq72 kq78 (by decide)
  have kq72 : C79 q72 = 7 := ((od79 q72 mq72).2 ne79).1.trans kq72
  have mq72 := (od79 q72 mq72).1
  have ne79 : q75 ≠ q78 := ne_role kq75 kq78 (by decide)
  have kq75 : C79 q75 = 7 := ((od79 q75 mq75).2 ne79).1.trans kq75
  have mq75 := (od79 q75 mq75).1
  have kq78 : C79 q78 = 7 := kq79
  have mq78 := (od79 q78 mq78).1
  have old := old.ctor od79 nq78
  have kk : KK L79 C79 I79 R79 [0, 1, 2, 3, 4, 5, 6, 7, 8, 16, 17, 18, 19, 20, 21, 22, 23, 24, 25, 26, 32, 33, 34, 35, 36, 37, 38, 39, 40, 41, 42, 43, 44, 45, 46, 47, 48, 49, 50, 51, 52, 53, 54, 55, 56, 58, 59, 60] := kk.wS rfl
  refine st_60 hx hb hH mq13 kq13 (Rg_in (Rg_c (x := 17) (a := 17) (b := 17) (by decide)) (by decide)) mq78 kq78 rfl dX10_init_157 (fun R80 H locs eR80 hH => ?_)
  have rra0 : R80 a0 = rl [(8, q24), (7, q21), (6, q18), (5, q15), (4, q13), (3, q10), (2, q7), (1, q4), (0, q1)] := by rw [eR80, u2_ne (ne_role ka0 kq13 (by decide))]; exact rra0
  have rrq15 : R80 q15 = rl [(1, q13), (0, q10), (6, z16_q7), (3, z16_q3), (2, z16_q1)] := by rw [eR80, u2_ne (ne_role kq15 kq13 (by decide))]; exact rrq15
  have rrq13 : R80 q13 = rl [(17, q78), (16, q75), (15, q72), (14, q69), (13, q66), (12, q63), (11, q60), (10, q57), (9, q54), (8, q51), (7, q48), (6, q45), (5, q42), (4, q39), (3, q36), (2, q33), (1, q30), (0, q27)] := by rw [eR80]; exact rl_put rrq13
  have kk : KK L79 C79 I79 R80 [0, 1, 2, 3, 4, 5, 6, 7, 8, 16, 17, 18, 19, 20, 21, 22, 23, 24, 25, 26, 32, 33, 34, 35, 36, 37, 38, 39, 40, 41, 42, 43, 44, 45, 46, 47, 48, 49, 50, 51, 52, 53, 54, 55, 56, 58, 59, 60] := by rw [eR80]; exact kk.stR kq13 zr_60
  have old : Old L0 C0 (I0, J0, R0) a0 L79 C79 I79 J79 R80 := by rw [eR80]; exact old.stR (Or.inr nq13)
  refine lv_iinc (v := 18) (lv' := [(1, .int 18), (0, .ref a0)]) hx hb dX10_init_158 hl (k := 0) rfl (by decide) (by decide) rfl (fun ls hl => ?_)
  refine lv_goto (tgt := 139) hx hb dX10_init_161 (by decide) ?_
  refine lv_iload_n hx hb dX10_init_139 rfl (lv_at hl 0 rfl) ?_
  refine lv_bipush (v := 20) hx hb dX10_init_140 (by decide) ?_
  refine lv_icmp_ge (tgt := 164) hx hb dX10_init_142 (by decide) (fun q => absurd q (by decide)) (fun q => ?_)
  refine lv_aload_n hx hb dX10_init_145 rfl (lv_at hl 1 rfl) ?_
  refine gf_10_4 (b := q13) (by rw [rra0]; rfl) hx hb hts hown hH ma0 ka0 rfl kf_X10_41 dX10_init_146 ?_
  refine lv_iload_n hx hb dX10_init_149 rfl (lv_at hl 0 rfl) ?_
  refine hNew (ci := 7) (N := 2) hx hb hts hown hH inX7 tyX7_ok rfl (by decide) rfl df_7 kcl_X10_39 kinst_X7 kini_X7 (by decide) (by decide) dX10_init_150 (fun q81 L81 C81 I81 J81 R81 H g81 eI81 eJ81 eR81 hH => ?_)
  have nq81 : q81 ∉ L0 := fun h => g81.2.2 (old q81 h).1
  have rra0 : R81 a0 = rl [(8, q24), (7, q21), (6, q18), (5, q15), (4, q13), (3, q10), (2, q7), (1, q4), (0, q1)] := by rw [eR81, va_up_ne _ _ (g81.ne ma0)]; exact rra0
  have ria0 : I81 a0 = il [] := by rw [eI81, va_up_ne _ _ (g81.ne ma0)]; exact ria0
  have ka0 := g81.role ma0 ka0
  have ma0 := g81.mem ma0
  have kq1 := g81.role mq1 kq1
  have mq1 := g81.mem mq1
  have kq4 := g81.role mq4 kq4
  have mq4 := g81.mem mq4
  have kq7 := g81.role mq7 kq7
  have mq7 := g81.mem mq7
  have kq10 := g81.role mq10 kq10
  have mq10 := g81.mem mq10
  have rrq13 : R81 q13 = rl [(17, q78), (16, q75), (15, q72), (14, q69), (13, q66), (12, q63), (11, q60), (10, q57), (9, q54), (8, q51), (7, q48), (6, q45), (5, q42), (4, q39), (3, q36), (2, q33), (1, q30), (0, q27)] := by rw [eR81, va_up_ne _ _ (g81.ne mq13)]; exact rrq13
  have riq13 : I81 q13 = il [] := by rw [eI81, va_up_ne _ _ (g81.ne mq13)]; exact riq13
  have kq13 := g81.role mq13 kq13
  have mq13 := g81.mem mq13
  have rrq15 : R81 q15 = rl [(1, q13), (0, q10), (6, z16_q7), (3, z16_q3), (2, z16_q1)] := by rw [eR81, va_up_ne _ _ (g81.ne mq15)]; exact rrq15
  have riq15 : I81 q15 = il [(5, 0), (4, 0)] := by rw [eI81, va_up_ne _ _ (g81.ne mq15)]; exact riq15
  have kq15 := g81.role mq15 kq15
  have mq15 := g81.mem mq15
  have kz16_q7 := g81.role mz16_q7 kz16_q7
  have mz16_q7 := g81.mem mz16_q7
  have kz16_q3 := g81.role mz16_q3 kz16_q3
  have mz16_q3 := g81.mem mz16_q3
  have kz16_q1 := g81.role mz16_q1 kz16_q1
  have mz16_q1 := g81.mem mz16_q1
  have n0q18 := g81.ne mq18
  have kq18 := g81.role mq18 kq18
  have mq18 := g81.mem mq18
  have kq21 := g81.role mq21 kq21
  have mq21 := g81.mem mq21
  have kq24 := g81.role mq24 kq24
  have mq24 := g81.mem mq24
  have kq27 := g81.role mq27 kq27
  have mq27 := g81.mem mq27
  have kq30 := g81.role mq30 kq30
  have mq30 := g81.mem mq30
  have kq33 := g81.role mq33 kq33
  have mq33 := g81.mem mq33
  have kq36 := g81.role mq36 kq36
  have mq36 := g81.mem mq36
  have kq39 := g81.role mq39 kq39
  have mq39 := g81.mem mq39
  have kq42 := g81.role mq42 kq42
  have mq42 := g81.mem mq42
  have kq45 := g81.role mq45 kq45
  have mq45 := g81.mem mq45
  have kq48 := g81.role mq48 kq48
  have mq48 := g81.mem mq48
  have kq51 := g81.role mq51 kq51
  have mq51 := g81.mem mq51
  have kq54 := g81.role mq54 kq54
  have mq54 := g81.mem mq54
  have kq57 := g81.role mq57 kq57
  have mq57 := g81.mem mq57
  have kq60 := g81.role mq60 kq60
  have mq60 := g81.mem mq60
  have kq63 := g81.role mq63 kq63
  have mq63 := g81.mem mq63
  have kq66 := g81.role mq66 kq66
  have mq66 := g81.mem mq66
  have kq69 := g81.role mq69 kq69
  have mq69 := g81.mem mq69
  have kq72 := g81.role mq72 kq72
  have mq72 := g81.mem mq72
  have kq75 := g81.role mq75 kq75
  have mq75 := g81.mem mq75
  have kq78 := g81.role mq78 kq78
  have mq78 := g81.mem mq78
  have mq81 := g81.new
  have kq81 := g81.at
  have va_q18_2 : I81 q18 2 = 0 := by rw [eI81, va_up_ne _ _ n0q18]; exact va_q18_2
  have rrq81 : R81 q81 = rl [] := by rw [eR81, va_up_self]; rfl
  have riq81 : I81 q81 = il [] := by rw [eI81, va_up_self]; rfl
  have kk := kk.new g81 eI81 eR81 zz_23 zr_23 (Or.inl rfl) (by decide)
  have old := old.new g81 eI81 eJ81 eR81
  refine lv_dup hx hb dX10_init_153 rfl ?_
  refine afA (va_runI (As := []) (rest := [.ref q81, .int 18, .ref q13]) ⟨hx, hb, hml, hown, hts⟩ (c_X7_init kk mq81 kq81 riq81 rrq81) ⟨callB_of 0 hts (wG_code kc_yX7_init) rfl rfl rfl (hts _ kini_X7) (hts _ km_X10_77) ⟨by decide, by decide, by decide +kernel⟩ ⟨by decide, by decide⟩, rfl, hts _ ki_yX7_init⟩ (preS hH) rfl rfl hl.1 rfl (lv_room (Nat.le_of_ble_eq_true rfl)) dX10_init_154 ⟨by decide, by decide⟩) hH (fun L82 C82 I82 J82 R82 H locs hp hH => ?_)
  obtain ⟨kk, od82, kq82⟩ := hp
  have ne82 : a0 ≠ q81 := ne_role ka0 kq81 (by decide)
  have rra0 : R82 a0 = rl [(8, q24), (7, q21), (6, q18), (5, q15), (4, q13), (3, q10), (2, q7), (1, q4), (0, q1)] := ((od82 a0 ma0).2 ne82).2.2.2.trans rra0
  have ria0 : I82 a0 = il [] := ((od82 a0 ma0).2 ne82).2.1.trans ria0
  have ka0 : C82 a0 = 26 := ((od82 a0 ma0).2 ne82).1.trans ka0
  have ma0 := (od82 a0 ma0).1
  have ne82 : q1 ≠ q81 := ne_role kq1 kq81 (by decide)
  have kq1 : C82 q1 = 6 := ((od82 q1 mq1).2 ne82).1.trans kq1
  have mq1 := (od82 q1 mq1).1
  have ne82 : q4 ≠ q81 := ne_role kq4 kq81 (by decide)
  have kq4 : C82 q4 = 0 := ((od82 q4 mq4).2 ne82).1.trans kq4
  have mq4 := (od82 q4 mq4).1
  have ne82 : q7 ≠ q81 := ne_role kq7 kq81 (by decide)
  have kq7 : C82 q7 = 2 := ((od82 q7 mq7).2 ne82).1.trans kq7
  have mq7 := (od82 q7 mq7).1
  have ne82 : q10 ≠ q81 := ne_role kq10 kq81 (by decide)
  have kq10 : C82 q10 = 3 := ((od82 q10 mq10).2 ne82).1.trans kq10
  have mq10 := (od82 q10 mq10).1
  have ne82 : q13 ≠ q81 := ne_role kq13 kq81 (by decide)
  have rrq13 : R82 q13 = rl [(17, q78), (16, q75), (15, q72), (14, q69), (13, q66), (12, q63), (11, q60), (10, q57), (9, q54), (8, q51), (7, q48), (6, q45), (5, q42), (4, q39), (3, q36), (2, q33), (1, q30), (0, q27)] := ((od82 q13 mq13).2 ne82).2.2.2.trans rrq13
  have riq13 : I82 q13 = il [] := ((od82 q13 mq13).2 ne82).2.1.trans riq13
  have kq13 : C82 q13 = 60 := ((od82 q13 mq13).2 ne82).1.trans kq13
  have mq13 := (od82 q13 mq13).1
  have ne82 : q15 ≠ q81 := ne_role kq15 kq81 (by decide)
  have rrq15 : R82 q15 = rl [(1, q13), (0, q10), (6, z16_q7), (3, z16_q3), (2, z16_q1)] := ((od82 q15 mq15).2 ne82).2.2.2.trans rrq15
  have riq15 : I82 q15 = il [(5, 0), (4, 0)] := ((od82 q15 mq15).2 ne82).2.1.trans riq15
  have kq15 : C82 q15 = 25 := ((od82 q15 mq15).2 ne82).1.trans kq15
  have mq15 := (od82 q15 mq15).1
  have ne82 : z16_q7 ≠ q81 := ne_role kz16_q7 kq81 (by decide)
  have kz16_q7 : C82 z16_q7 = 47 := ((od82 z16_q7 mz16_q7).2 ne82).1.trans kz16_q7
  have mz16_q7 := (od82 z16_q7 mz16_q7).1
  have ne82 : z16_q3 ≠ q81 := ne_role kz16_q3 kq81 (by decide)
  have kz16_q3 : C82 z16_q3 = 46 := ((od82 z16_q3 mz16_q3).2 ne82).1.trans kz16_q3
  have mz16_q3 := (od82 z16_q3 mz16_q3).1
  have ne82 : z16_q1 ≠ q81 := ne_role kz16_q1 kq81 (by decide)
  have kz16_q1 : C82 z16_q1 = 45 := ((od82 z16_q1 mz16_q1).2 ne82).1.trans kz16_q1
  have mz16_q1 := (od82 z16_q1 mz16_q1).1
  have ne82 : q18 ≠ q81 := ne_role kq18 kq81 (by decide)
  have va_q18_2 : I82 q18 2 = 0 := (congrFun ((od82 q18 mq18).2 ne82).2.1 2).trans va_q18_2
  have kq18 : C82 q18 = 8 := ((od82 q18 mq18).2 ne82).1.trans kq18
  have mq18 := (od82 q18 mq18).1
  have ne82 : q21 ≠ q81 := ne_role kq21 kq81 (by decide)
  have kq21 : C82 q21 = 4 := ((od82 q21 mq21).2 ne82).1.trans kq21
  have mq21 := (od82 q21 mq21).1
  have ne82 : q24 ≠ q81 := ne_role kq24 kq81 (by decide)
  have kq24 : C82 q24 = 1 := ((od82 q24 mq24).2 ne82).1.trans kq24
  have mq24 := (od82 q24 mq24).1
  have ne82 : q27 ≠ q81 := ne_role kq27 kq81 (by decide)
  have kq27 : C82 q27 = 7 := ((od82 q27 mq27).2 ne82).1.trans kq27
  have mq27 := (od82 q27 mq27).1
  have ne82 : q30 ≠ q81 := ne_role kq30 kq81 (by decide)
  have kq30 : C82 q30 = 7 := ((od82 q30 mq30).2 ne82).1.trans kq30
  have mq30 := (od82 q30 mq30).1
  have ne82 : q33 ≠ q81 := ne_role kq33 kq81 (by decide)
  have kq33 : C82 q33 = 7 := ((od82 q33 mq33).2 ne82).1.trans kq33
  have mq33 := (od82 q33 mq33).1
  have ne82 : q36 ≠ q81 := ne_role kq36 kq81 (by decide)
  have kq36 : C82 q36 = 7 := ((od82 q36 mq36).2 ne82).1.trans kq36
  have mq36 := (od82 q36 mq36).1
  have ne82 : q39 ≠ q81 := ne_role kq39 kq81 (by decide)
  have kq39 : C82 q39 = 7 := ((od82 q39 mq39).2 ne82).1.trans kq39
  have mq39 := (od82 q39 mq39).1
  have ne82 : q42 ≠ q81 := ne_role kq42 kq81 (by decide)
  have kq42 : C82 q42 = 7 := ((od82 q42 mq42).2 ne82).1.trans kq42
  have mq42 := (od82 q42 mq42).1
  have ne82 : q45 ≠ q81 := ne_role kq45 kq81 (by decide)
  have kq45 : C82 q45 = 7 := ((od82 q45 mq45).2 ne82).1.trans kq45
  have mq45 := (od82 q45 mq45).1
  have ne82 : q48 ≠ q81 := ne_role kq48 kq81 (by decide)
  have kq48 : C82 q48 = 7 := ((od82 q48 mq48).2 ne82).1.trans kq48
  have mq48 := (od82 q48 mq48).1
  have ne82 : q51 ≠ q81 := ne_role kq51 kq81 (by decide)
  have kq51 : C82 q51 = 7 := ((od82 q51 mq51).2 ne82).1.trans kq51
  have mq51 := (od82 q51 mq51).1
  have ne82 : q54 ≠ q81 := ne_role kq54 kq81 (by decide)
  have kq54 : C82 q54 = 7 := ((od82 q54 mq54).2 ne82).1.trans kq54
  have mq54 := (od82 q54 mq54).1
  have ne82 : q57 ≠ q81 := ne_role kq57 kq81 (by decide)
  have kq57 : C82 q57 = 7 := ((od82 q57 mq57).2 ne82).1.trans kq57
  have mq57 := (od82 q57 mq57).1
  have ne82 : q60 ≠ q81 := ne_role kq60 kq81 (by decide)
  have kq60 : C82 q60 = 7 := ((od82 q60 mq60).2 ne82).1.trans kq60
  have mq60 := (od82 q60 mq60).1
  have ne82 : q63 ≠ q81 := ne_role kq63 kq81 (by decide)
  have kq63 : C82 q63 = 7 := ((od82 q63 mq63).2 ne82).1.trans kq63
  have mq63 := (od82 q63 mq63).1
  have ne82 : q66 ≠ q81 := ne_role kq66 kq81 (by decide)
  have kq66 : C82 q66 = 7 := ((od82 q66 mq66).2 ne82).1.trans kq66
  have mq66 := (od82 q66 mq66).1
  have ne82 : q69 ≠ q81 := ne_role kq69 kq81 (by decide)
  have kq69 : C82 q69 = 7 := ((od82 q69 mq69).2 ne82).1.trans kq69
  have mq69 := (od82 q69 mq69).1
  have ne82 : q72 ≠ q81 := ne_role kq72 kq81 (by decide)
  have kq72 : C82 q72 = 7 := ((od82 q72 mq72).2 ne82).1.trans kq72
  have mq72 := (od82 q72 mq72).1
  have ne82 : q75 ≠ q81 := ne_role kq75 kq81 (by decide)
  have kq75 : C82 q75 = 7 := ((od82 q75 mq75).2 ne82).1.trans kq75
  have mq75 := (od82 q75 mq75).1
  have ne82 : q78 ≠ q81 := ne_role kq78 kq81 (by decide)
  have kq78 : C82 q78 = 7 := ((od82 q78 mq78).2 ne82).1.trans kq78
  have mq78 := (od82 q78 mq78).1
  have kq81 : C82 q81 = 7 := kq82
  have mq81 := (od82 q81 mq81).1
  have old := old.ctor od82 nq81
  have kk : KK L82 C82 I82 R82 [0, 1, 2, 3, 4, 5, 6, 7, 8, 16, 17, 18, 19, 20, 21, 22, 23, 24, 25, 26, 32, 33, 34, 35, 36, 37, 38, 39, 40, 41, 42, 43, 44, 45, 46, 47, 48, 49, 50, 51, 52, 53, 54, 55, 56, 58, 59, 60] := kk.wS rfl
  refine st_60 hx hb hH mq13 kq13 (Rg_in (Rg_c (x := 18) (a := 18) (b := 18) (by decide)) (by decide)) mq81 kq81 rfl dX10_init_157 (fun R83 H locs eR83 hH => ?_)
  have rra0 : R83 a0 = rl [(8, q24), (7, q21), (6, q18), (5, q15), (4, q13), (3, q10), (2, q7), (1, q4), (0, q1)] := by rw [eR83, u2_ne (ne_role ka0 kq13 (by decide))]; exact rra0
  have rrq15 : R83 q15 = rl [(1, q13), (0, q10), (6, z16_q7), (3, z16_q3), (2, z16_q1)] := by rw [eR83, u2_ne (ne_role kq15 kq13 (by decide))]; exact rrq15
  have rrq13 : R83 q13 = rl [(18, q81), (17, q78), (16, q75), (15, q72), (14, q69), (13, q66), (12, q63), (11, q60), (10, q57), (9, q54), (8, q51), (7, q48), (6, q45), (5, q42), (4, q39), (3, q36), (2, q33), (1, q30), (0, q27)] := by rw [eR83]; exact rl_put rrq13
  have kk : KK L82 C82 I82 R83 [0, 1, 2, 3, 4, 5, 6, 7, 8, 16, 17, 18, 19, 20, 21, 22, 23, 24, 25, 26, 32, 33, 34, 35, 36, 37, 38, 39, 40, 41, 42, 43, 44, 45, 46, 47, 48, 49, 50, 51, 52, 53, 54, 55, 56, 58, 59, 60] := by rw [eR83]; exact kk.stR kq13 zr_60
  have old : Old L0 C0 (I0, J0, R0) a0 L82 C82 I82 J82 R83 := by rw [eR83]; exact old.stR (Or.inr nq13)
  refine lv_iinc (v := 19) (lv' := [(1, .int 19), (0, .ref a0)]) hx hb dX10_init_158 hl (k := 0) rfl (by decide) (by decide) rfl (fun ls hl => ?_)
  refine lv_goto (tgt := 139) hx hb dX10_init_161 (by decide) ?_
  refine lv_iload_n hx hb dX10_init_139 rfl (lv_at hl 0 rfl) ?_
  refine lv_bipush (v := 20) hx hb dX10_init_140 (by decide) ?_
  refine lv_icmp_ge (tgt := 164) hx hb dX10_init_142 (by decide) (fun q => absurd q (by decide)) (fun q => ?_)
  refine lv_aload_n hx hb dX10_init_145 rfl (lv_at hl 1 rfl) ?_
  refine gf_10_4 (b := q13) (by rw [rra0]; rfl) hx hb hts hown hH ma0 ka0 rfl kf_X10_41 dX10_init_146 ?_
  refine lv_iload_n hx hb dX10_init_149 rfl (lv_at hl 0 rfl) ?_
  refine hNew (ci := 7) (N := 2) hx hb hts hown hH inX7 tyX7_ok rfl (by decide) rfl df_7 kcl_X10_39 kinst_X7 kini_X7 (by decide) (by decide) dX10_init_150 (fun q84 L84 C84 I84 J84 R84 H g84 eI84 eJ84 eR84 hH => ?_)
  have nq84 : q84 ∉ L0 := fun h => g84.2.2 (old q84 h).1
  have rra0 : R84 a0 = rl [(8, q24), (7, q21), (6, q18), (5, q15), (4, q13), (3, q10), (2, q7), (1, q4), (0, q1)] := by rw [eR84, va_up_ne _ _ (g84.ne ma0)]; exact rra0
  have ria0 : I84 a0 = il [] := by rw [eI84, va_up_ne _ _ (g84.ne ma0)]; exact ria0
  have ka0 := g84.role ma0 ka0
  have ma0 := g84.mem ma0
  have kq1 := g84.role mq1 kq1
  have mq1 := g84.mem mq1
  have kq4 := g84.role mq4 kq4
  have mq4 := g84.mem mq4
  have kq7 := g84.role mq7 kq7
  have mq7 := g84.mem mq7
  have kq10 := g84.role mq10 kq10
  have mq10 := g84.mem mq10
  have rrq13 : R84 q13 = rl [(18, q81), (17, q78), (16, q75), (15, q72), (14, q69), (13, q66), (12, q63), (11, q60), (10, q57), (9, q54), (8, q51), (7, q48), (6, q45), (5, q42), (4, q39), (3, q36), (2, q33), (1, q30), (0, q27)] := by rw [eR84, va_up_ne _ _ (g84.ne mq13)]; exact rrq13
  have riq13 : I84 q13 = il [] := by rw [eI84, va_up_ne _ _ (g84.ne mq13)]; exact riq13
  have kq13 := g84.role mq13 kq13
  have mq13 := g84.mem mq13
  have rrq15 : R84 q15 = rl [(1, q13), (0, q10), (6, z16_q7), (3, z16_q3), (2, z16_q1)] := by rw [eR84, va_up_ne _ _ (g84.ne mq15)]; exact rrq15
  have riq15 : I84 q15 = il [(5, 0), (4, 0)] := by rw [eI84, va_up_ne _ _ (g84.ne mq15)]; exact riq15
  have kq15 := g84.role mq15 kq15
  have mq15 := g84.mem mq15
  have kz16_q7 := g84.role mz16_q7 kz16_q7
  have mz16_q7 := g84.mem mz16_q7
  have kz16_q3 := g84.role mz16_q3 kz16_q3
  have mz16_q3 := g84.mem mz16_q3
  have kz16_q1 := g84.role mz16_q1 kz16_q1
  have mz16_q1 := g84.mem mz16_q1
  have n0q18 := g84.ne mq18
  have kq18 := g84.role mq18 kq18
  have mq18 := g84.mem mq18
  have kq21 := g84.role mq21 kq21
  have mq21 := g84.mem mq21
  have kq24 := g84.role mq24 kq24
  have mq24 := g84.mem mq24
  have kq27 := g84.role mq27 kq27
  have mq27 := g84.mem mq27
  have kq30 := g84.role mq30 kq30
  have mq30 := g84.mem mq30
  have kq33 := g84.role mq33 kq33
  have mq33 := g84.mem mq33
  have kq36 := g84.role mq36 kq36
  have mq36 := g84.mem mq36
  have kq39 := g84.role mq39 kq39
  have mq39 := g84.mem mq39
  have kq42 := g84.role mq42 kq42
  have mq42 := g84.mem mq42
  have kq45 := g84.role mq45 kq45
  have mq45 := g84.mem mq45
  have kq48 := g84.role mq48 kq48
  have mq48 := g84.mem mq48
  have kq51 := g84.role mq51 kq51
  have mq51 := g84.mem mq51
  have kq54 := g84.role mq54 kq54
  have mq54 := g84.mem mq54
  have kq57 := g84.role mq57 kq57
  have mq57 := g84.mem mq57
  have kq60 := g84.role mq60 kq60
  have mq60 := g84.mem mq60
  have kq63 := g84.role mq63 kq63
  have mq63 := g84.mem mq63
  have kq66 := g84.role mq66 kq66
  have mq66 := g84.mem mq66
  have kq69 := g84.role mq69 kq69
  have mq69 := g84.mem mq69
  have kq72 := g84.role mq72 kq72
  have mq72 := g84.mem mq72
  have kq75 := g84.role mq75 kq75
  have mq75 := g84.mem mq75
  have kq78 := g84.role mq78 kq78
  have mq78 := g84.mem mq78
  have kq81 := g84.role mq81 kq81
  have mq81 := g84.mem mq81
  have mq84 := g84.new
  have kq84 := g84.at
  have va_q18_2 : I84 q18 2 = 0 := by rw [eI84, va_up_ne _ _ n0q18]; exact va_q18_2
  have rrq84 : R84 q84 = rl [] := by rw [eR84, va_up_self]; rfl
  have riq84 : I84 q84 = il [] := by rw [eI84, va_up_self]; rfl
  have kk := kk.new g84 eI84 eR84 zz_23 zr_23 (Or.inl rfl) (by decide)
  have old := old.new g84 eI84 eJ84 eR84
  refine lv_dup hx hb dX10_init_153 rfl ?_
  refine afA (va_runI (As := []) (rest := [.ref q84, .int 19, .ref q13]) ⟨hx, hb, hml, hown, hts⟩ (c_X7_init kk mq84 kq84 riq84 rrq84) ⟨callB_of 0 hts (wG_code kc_yX7_init) rfl rfl rfl (hts _ kini_X7) (hts _ km_X10_77) ⟨by decide, by decide, by decide +kernel⟩ ⟨by decide, by decide⟩, rfl, hts _ ki_yX7_init⟩ (preS hH) rfl rfl hl.1 rfl (lv_room (Nat.le_of_ble_eq_true rfl)) dX10_init_154 ⟨by decide, by decide⟩) hH (fun L85 C85 I85 J85 R85 H locs hp hH => ?_)
  obtain ⟨kk, od85, kq85⟩ := hp
  have ne85 : a0 ≠ q84 := ne_role ka0 kq84 (by decide)
  have rra0 : R85 a0 = rl [(8, q24), (7, q21), (6, q18), (5, q15), (4, q13), (3, q10), (2, q7), (1, q4), (0, q1)] := ((od85 a0 ma0).2 ne85).2.2.2.trans rra0
  have ria0 : I85 a0 = il [] := ((od85 a0 ma0).2 ne85).2.1.trans ria0
  have ka0 : C85 a0 = 26 := ((od85 a0 ma0).2 ne85).1.trans ka0
  have ma0 := (od85 a0 ma0).1
  have ne85 : q1 ≠ q84 := ne_role kq1 kq84 (by decide)
  have kq1 : C85 q1 = 6 := ((od85 q1 mq1).2 ne85).1.trans kq1
  have mq1 := (od85 q1 mq1).1
  have ne85 : q4 ≠ q84 := ne_role kq4 kq84 (by decide)
  have kq4 : C85 q4 = 0 := ((od85 q4 mq4).2 ne85).1.trans kq4
  have mq4 := (od85 q4 mq4).1
  have ne85 : q7 ≠ q84 := ne_role kq7 kq84 (by decide)
  have kq7 : C85 q7 = 2 := ((od85 q7 mq7).2 ne85).1.trans kq7
  have mq7 := (od85 q7 mq7).1
  have ne85 : q10 ≠ q84 := ne_role kq10 kq84 (by decide)
  have kq10 : C85 q10 = 3 := ((od85 q10 mq10).2 ne85).1.trans kq10
  have mq10 := (od85 q10 mq10).1
  have ne85 : q13 ≠ q84 := ne_role kq13 kq84 (by decide)
  have rrq13 : R85 q13 = rl [(18, q81), (17, q78), (16, q75), (15, q72), (14, q69), (13, q66), (12, q63), (11, q60), (10, q57), (9, q54), (8, q51), (7, q48), (6, q45), (5, q42), (4, q39), (3, q36), (2, q33), (1, q30), (0, q27)] := ((od85 q13 mq13).2 ne85).2.2.2.trans rrq13
  have riq13 : I85 q13 = il [] := ((od85 q13 mq13).2 ne85).2.1.trans riq13
  have kq13 : C85 q13 = 60 := ((od85 q13 mq13).2 ne85).1.trans kq13
  have mq13 := (od85 q13 mq13).1
  have ne85 : q15 ≠ q84 := ne_role kq15 kq84 (by decide)
  have rrq15 : R85 q15 = rl [(1, q13), (0, q10), (6, z16_q7), (3, z16_q3), (2, z16_q1)] := ((od85 q15 mq15).2 ne85).2.2.2.trans rrq15
  have riq15 : I85 q15 = il [(5, 0), (4, 0)] := ((od85 q15 mq15).2 ne85).2.1.trans riq15
  have kq15 : C85 q15 = 25 := ((od85 q15 mq15).2 ne85).1.trans kq15
  have mq15 := (od85 q15 mq15).1
  have ne85 : z16_q7 ≠ q84 := ne_role kz16_q7 kq84 (by decide)
  have kz16_q7 : C85 z16_q7 = 47 := ((od85 z16_q7 mz16_q7).2 ne85).1.trans kz16_q7
  have mz16_q7 := (od85 z16_q7 mz16_q7).1
  have ne85 : z16_q3 ≠ q84 := ne_role kz16_q3 kq84 (by decide)
  have kz16_q3 : C85 z16_q3 = 46 := ((od85 z16_q3 mz16_q3).2 ne85).1.trans kz16_q3
  have mz16_q3 := (od85 z16_q3 mz16_q3).1
  have ne85 : z16_q1 ≠ q84 := ne_role kz16_q1 kq84 (by decide)
  have kz16_q1 : C85 z16_q1 = 45 := ((od85 z16_q1 mz16_q1).2 ne85).1.trans kz16_q1
  have mz16_q1 := (od85 z16_q1 mz16_q1).1
  have ne85 : q18 ≠ q84 := ne_role kq18 kq84 (by decide)
  have va_q18_2 : I85 q18 2 = 0 := (congrFun ((od85 q18 mq18).2 ne85).2.1 2).trans va_q18_2
  have kq18 : C85 q18 = 8 := ((od85 q18 mq18).2 ne85).1.trans kq18
  have mq18 := (od85 q18 mq18).1
  have ne85 : q21 ≠ q84 := ne_role kq21 kq84 (by decide)
  have kq21 : C85 q21 = 4 := ((od85 q21 mq21).2 ne85).1.trans kq21
  have mq21 := (od85 q21 mq21).1
  have ne85 : q24 ≠ q84 := ne_role kq24 kq84 (by decide)
  have kq24 : C85 q24 = 1 := ((od85 q24 mq24).2 ne85).1.trans kq24
  have mq24 := (od85 q24 mq24).1
  have ne85 : q27 ≠ q84 := ne_role kq27 kq84 (by decide)
  have kq27 : C85 q27 = 7 := ((od85 q27 mq27).2 ne85).1.trans kq27
  have mq27 := (od85 q27 mq27).1
  have ne85 : q30 ≠ q84 := ne_role kq30 kq84 (by decide)
  have kq30 : C85 q30 = 7 := ((od85 q30 mq30).2 ne85).1.trans kq30
  have mq30 := (od85 q30 mq30).1
  have ne85 : q33 ≠ q84 := ne_role kq33 kq84 (by decide)
  have kq33 : C85 q33 = 7 := ((od85 q33 mq33).2 ne85).1.trans kq33
  have mq33 := (od85 q33 mq33).1
  have ne85 : q36 ≠ q84 := ne_role kq36 kq84 (by decide)
  have kq36 : C85 q36 = 7 := ((od85 q36 mq36).2 ne85).1.trans kq36
  have mq36 := (od85 q36 mq36).1
  have ne85 : q39 ≠ q84 := ne_role kq39 kq84 (by decide)
  have kq39 : C85 q39 = 7 := ((od85 q39 mq39).2 ne85).1.trans kq39
  have mq39 := (od85 q39 mq39).1
  have ne85 : q42 ≠ q84 := ne_role kq42 kq84 (by decide)
  have kq42 : C85 q42 = 7 := ((od85 q42 mq42).2 ne85).1.trans kq42
  have mq42 := (od85 q42 mq42).1
  have ne85 : q45 ≠ q84 := ne_role kq45 kq84 (by decide)
  have kq45 : C85 q45 = 7 := ((od85 q45 mq45).2 ne85).1.trans kq45
  have mq45 := (od85 q45 mq45).1
  have ne85 : q48 ≠ q84 := ne_role kq48 kq84 (by decide)
  have kq48 : C85 q48 = 7 := ((od85 q48 mq48).2 ne85).1.trans kq48
  have mq48 := (od85 q48 mq48).1
  have ne85 : q51 ≠ q84 := ne_role kq51 kq84 (by decide)
  have kq51 : C85 q51 = 7 := ((od85 q51 mq51).2 ne85).1.trans kq51
  have mq51 := (od85 q51 mq51).1
  have ne85 : q54 ≠ q84 := ne_role kq54 kq84 (by decide)
  have kq54 : C85 q54 = 7 := ((od85 q54 mq54).2 ne85).1.trans kq54
  have mq54 := (od85 q54 mq54).1
  have ne85 : q57 ≠ q84 := ne_role kq57 kq84 (by decide)
  have kq57 : C85 q57 = 7 := ((od85 q57 mq57).2 ne85).1.trans kq57
  have mq57 := (od85 q57 mq57).1
  have ne85 : q60 ≠ q84 := ne_role kq60 kq84 (by decide)
  have kq60 : C85 q60 = 7 := ((od85 q60 mq60).2 ne85).1.trans kq60
  have mq60 := (od85 q60 mq60).1
  have ne85 : q63 ≠ q84 := ne_role kq63 kq84 (by decide)
  have kq63 : C85 q63 = 7 := ((od85 q63 mq63).2 ne85).1.trans kq63
  have mq63 := (od85 q63 mq63).1
  have ne85 : q66 ≠ q84 := ne_role kq66 kq84 (by decide)
  have kq66 : C85 q66 = 7 := ((od85 q66 mq66).2 ne85).1.trans kq66
  have mq66 := (od85 q66 mq66).1
  have ne85 : q69 ≠ q84 := ne_role kq69 kq84 (by decide)
  have kq69 : C85 q69 = 7 := ((od85 q69 mq69).2 ne85).1.trans kq69
  have mq69 := (od85 q69 mq69).1
  have ne85 : q72 ≠ q84 := ne_role kq72 kq84 (by decide)
  have kq72 : C85 q72 = 7 := ((od85 q72 mq72).2 ne85).1.trans kq72
  have mq72 := (od85 q72 mq72).1
  have ne85 : q75 ≠ q84 := ne_role kq75 kq84 (by decide)
  have kq75 : C85 q75 = 7 := ((od85 q75 mq75).2 ne85).1.trans kq75
  have mq75 := (od85 q75 mq75).1
  have ne85 : q78 ≠ q84 := ne_role kq78 kq84 (by decide)
  have kq78 : C85 q78 = 7 := ((od85 q78 mq78).2 ne85).1.trans kq78
  have mq78 := (od85 q78 mq78).1
  have ne85 : q81 ≠ q84 := ne_role kq81 kq84 (by decide)
  have kq81 : C85 q81 = 7 := ((od85 q81 mq81).2 ne85).1.trans kq81
  have mq81 := (od85 q81 mq81).1
  have kq84 : C85 q84 = 7 := kq85
  have mq84 := (od85 q84 mq84).1
  have old := old.ctor od85 nq84
  have kk : KK L85 C85 I85 R85 [0, 1, 2, 3, 4, 5, 6, 7, 8, 16, 17, 18, 19, 20, 21, 22, 23, 24, 25, 26, 32, 33, 34, 35, 36, 37, 38, 39, 40, 41, 42, 43, 44, 45, 46, 47, 48, 49, 50, 51, 52, 53, 54, 55, 56, 58, 59, 60] := kk.wS rfl
  refine st_60 hx hb hH mq13 kq13 (Rg_in (Rg_c (x := 19) (a := 19) (b := 19) (by decide)) (by decide)) mq84 kq84 rfl dX10_init_157 (fun R86 H locs eR86 hH => ?_)
  have rra0 : R86 a0 = rl [(8, q24), (7, q21), (6, q18), (5, q15), (4, q13), (3, q10), (2, q7), (1, q4), (0, q1)] := by rw [eR86, u2_ne (ne_role ka0 kq13 (by decide))]; exact rra0
  have rrq15 : R86 q15 = rl [(1, q13), (0, q10), (6, z16_q7), (3, z16_q3), (2, z16_q1)] := by rw [eR86, u2_ne (ne_role kq15 kq13 (by decide))]; exact rrq15
  have rrq13 : R86 q13 = rl [(19, q84), (18, q81), (17, q78), (16, q75), (15, q72), (14, q69), (13, q66), (12, q63), (11, q60), (10, q57), (9, q54), (8, q51), (7, q48), (6, q45), (5, q42), (4, q39), (3, q36), (2, q33), (1, q30), (0, q27)] := by rw [eR86]; exact rl_put rrq13
  have kk : KK L85 C85 I85 R86 [0, 1, 2, 3, 4, 5, 6, 7, 8, 16, 17, 18, 19, 20, 21, 22, 23, 24, 25, 26, 32, 33, 34, 35, 36, 37, 38, 39, 40, 41, 42, 43, 44, 45, 46, 47, 48, 49, 50, 51, 52, 53, 54, 55, 56, 58, 59, 60] := by rw [eR86]; exact kk.stR kq13 zr_60
  have old : Old L0 C0 (I0, J0, R0) a0 L85 C85 I85 J85 R86 := by rw [eR86]; exact old.stR (Or.inr nq13)
  refine lv_iinc (v := 20) (lv' := [(1, .int 20), (0, .ref a0)]) hx hb dX10_init_158 hl (k := 0) rfl (by decide) (by decide) rfl (fun ls hl => ?_)
  refine lv_goto (tgt := 139) hx hb dX10_init_161 (by decide) ?_
  refine lv_iload_n hx hb dX10_init_139 rfl (lv_at hl 0 rfl) ?_
  refine lv_bipush (v := 20) hx hb dX10_init_140 (by decide) ?_
  refine lv_icmp_ge (tgt := 164) hx hb dX10_init_142 (by decide) (fun q => ?_) (fun q => absurd (by decide) q)
  have hI87 : ∀ j, j < rN 57 → rLo 57 j ≤ (I85 q13 j).toInt ∧ (I85 q13 j).toInt ≤ rHi 57 j ∧ (rX 57 = true → (I85 q13 j).toInt ≤ 3 ∨ (I85 q13 j).toInt = 9) := by rw [riq13]; decide +kernel
  have hR87 : ∀ j, j < rN 57 → rR 57 j ≠ 0 → ∃ b, b ∈ L85 ∧ b ≠ q13 ∧ R86 q13 j = some b ∧ C85 b + 1 = rR 57 j := by
    intro j hj hn
    rw [rrq13]
    have hj : j < 20 := hj
    rcases (show j = 0 ∨ j = 1 ∨ j = 2 ∨ j = 3 ∨ j = 4 ∨ j = 5 ∨ j = 6 ∨ j = 7 ∨ j = 8 ∨ j = 9 ∨ j = 10 ∨ j = 11 ∨ j = 12 ∨ j = 13 ∨ j = 14 ∨ j = 15 ∨ j = 16 ∨ j = 17 ∨ j = 18 ∨ j = 19 by omega) with rfl | rfl | rfl | rfl | rfl | rfl | rfl | rfl | rfl | rfl | rfl | rfl | rfl | rfl | rfl | rfl | rfl | rfl | rfl | rfl
    · exact ⟨q27, mq27, ne_role kq27 kq13 (by decide), rfl, by rw [kq27]; rfl⟩
    · exact ⟨q30, mq30, ne_role kq30 kq13 (by decide), rfl, by rw [kq30]; rfl⟩
    · exact ⟨q33, mq33, ne_role kq33 kq13 (by decide), rfl, by rw [kq33]; rfl⟩
    · exact ⟨q36, mq36, ne_role kq36 kq13 (by decide), rfl, by rw [kq36]; rfl⟩
    · exact ⟨q39, mq39, ne_role kq39 kq13 (by decide), rfl, by rw [kq39]; rfl⟩
    · exact ⟨q42, mq42, ne_role kq42 kq13 (by decide), rfl, by rw [kq42]; rfl⟩
    · exact ⟨q45, mq45, ne_role kq45 kq13 (by decide), rfl, by rw [kq45]; rfl⟩
    · exact ⟨q48, mq48, ne_role kq48 kq13 (by decide), rfl, by rw [kq48]; rfl⟩
    · exact ⟨q51, mq51, ne_role kq51 kq13 (by decide), rfl, by rw [kq51]; rfl⟩
    · exact ⟨q54, mq54, ne_role kq54 kq13 (by decide), rfl, by rw [kq54]; rfl⟩
    · exact ⟨q57, mq57, ne_role kq57 kq13 (by decide), rfl, by rw [kq57]; rfl⟩
    · exact ⟨q60, mq60, ne_role kq60 kq13 (by decide), rfl, by rw [kq60]; rfl⟩
    · exact ⟨q63, mq63, ne_role kq63 kq13 (by decide), rfl, by rw [kq63]; rfl⟩
    · exact ⟨q66, mq66, ne_role kq66 kq13 (by decide), rfl, by rw [kq66]; rfl⟩
    · exact ⟨q69, mq69, ne_role kq69 kq13 (by decide), rfl, by rw [kq69]; rfl⟩
    · exact ⟨q72, mq72, ne_role kq72 kq13 (by decide), rfl, by rw [kq72]; rfl⟩
    · exact ⟨q75, mq75, ne_role kq75 kq13 (by decide), rfl, by rw [kq75]; rfl⟩
    · exact ⟨q78, mq78, ne_role kq78 kq13 (by decide), rfl, by rw [kq78]; rfl⟩
    · exact ⟨q81, mq81, ne_role kq81 kq13 (by decide), rfl, by rw [kq81]; rfl⟩
    · exact ⟨q84, mq84, ne_role kq84 kq13 (by decide), rfl, by rw [kq84]; rfl⟩
  have hH := hH.rel (q := q13) (r := 57) (by rw [kq13]; rfl) (by rw [kq13]; rfl)
  have kk := kk.rel mq13 kq13 (Or.inr ⟨by decide, by decide⟩) hI87 hR87 (Or.inr rfl) (fun h => absurd h (by decide)) (by decide) (by decide)
  have old := old.rel (q := q13) (r := 57) (Or.inr nq13)
  obtain ⟨C87, eC87⟩ : ∃ z, z = va_up C85 q13 57 := ⟨_, rfl⟩
  rw [← eC87] at hH kk old
  have ka0 : C87 a0 = 26 := by rw [eC87, va_up_ne _ _ (ne_role ka0 kq13 (by decide))]; exact ka0
  have kq1 : C87 q1 = 6 := by rw [eC87, va_up_ne _ _ (ne_role kq1 kq13 (by decide))]; exact kq1
  have kq4 : C87 q4 = 0 := by rw [eC87, va_up_ne _ _ (ne_role kq4 kq13 (by decide))]; exact kq4
  have kq7 : C87 q7 = 2 := by rw [eC87, va_up_ne _ _ (ne_role kq7 kq13 (by decide))]; exact kq7
  have kq10 : C87 q10 = 3 := by rw [eC87, va_up_ne _ _ (ne_role kq10 kq13 (by decide))]; exact kq10
  have kq15 : C87 q15 = 25 := by rw [eC87, va_up_ne _ _ (ne_role kq15 kq13 (by decide))]; exact kq15
  have kz16_q7 : C87 z16_q7 = 47 := by rw [eC87, va_up_ne _ _ (ne_role kz16_q7 kq13 (by decide))]; exact kz16_q7
  have kz16_q3 : C87 z16_q3 = 46 := by rw [eC87, va_up_ne _ _ (ne_role kz16_q3 kq13 (by decide))]; exact kz16_q3
  have kz16_q1 : C87 z16_q1 = 45 := by rw [eC87, va_up_ne _ _ (ne_role kz16_q1 kq13 (by decide))]; exact kz16_q1
  have kq18 : C87 q18 = 8 := by rw [eC87, va_up_ne _ _ (ne_role kq18 kq13 (by decide))]; exact kq18
  have kq21 : C87 q21 = 4 := by rw [eC87, va_up_ne _ _ (ne_role kq21 kq13 (by decide))]; exact kq21
  have kq24 : C87 q24 = 1 := by rw [eC87, va_up_ne _ _ (ne_role kq24 kq13 (by decide))]; exact kq24
  have kq27 : C87 q27 = 7 := by rw [eC87, va_up_ne _ _ (ne_role kq27 kq13 (by decide))]; exact kq27
  have kq30 : C87 q30 = 7 := by rw [eC87, va_up_ne _ _ (ne_role kq30 kq13 (by decide))]; exact kq30
  have kq33 : C87 q33 = 7 := by rw [eC87, va_up_ne _ _ (ne_role kq33 kq13 (by decide))]; exact kq33
  have kq36 : C87 q36 = 7 := by rw [eC87, va_up_ne _ _ (ne_role kq36 kq13 (by decide))]; exact kq36
  have kq39 : C87 q39 = 7 := by rw [eC87, va_up_ne _ _ (ne_role kq39 kq13 (by decide))]; exact kq39
  have kq42 : C87 q42 = 7 := by rw [eC87, va_up_ne _ _ (ne_role kq42 kq13 (by decide))]; exact kq42
  have kq45 : C87 q45 = 7 := by rw [eC87, va_up_ne _ _ (ne_role kq45 kq13 (by decide))]; exact kq45
  have kq48 : C87 q48 = 7 := by rw [eC87, va_up_ne _ _ (ne_role kq48 kq13 (by decide))]; exact kq48
  have kq51 : C87 q51 = 7 := by rw [eC87, va_up_ne _ _ (ne_role kq51 kq13 (by decide))]; exact kq51
  have kq54 : C87 q54 = 7 := by rw [eC87, va_up_ne _ _ (ne_role kq54 kq13 (by decide))]; exact kq54
  have kq57 : C87 q57 = 7 := by rw [eC87, va_up_ne _ _ (ne_role kq57 kq13 (by decide))]; exact kq57
  have kq60 : C87 q60 = 7 := by rw [eC87, va_up_ne _ _ (ne_role kq60 kq13 (by decide))]; exact kq60
  have kq63 : C87 q63 = 7 := by rw [eC87, va_up_ne _ _ (ne_role kq63 kq13 (by decide))]; exact kq63
  have kq66 : C87 q66 = 7 := by rw [eC87, va_up_ne _ _ (ne_role kq66 kq13 (by decide))]; exact kq66
  have kq69 : C87 q69 = 7 := by rw [eC87, va_up_ne _ _ (ne_role kq69 kq13 (by decide))]; exact kq69
  have kq72 : C87 q72 = 7 := by rw [eC87, va_up_ne _ _ (ne_role kq72 kq13 (by decide))]; exact kq72
  have kq75 : C87 q75 = 7 := by rw [eC87, va_up_ne _ _ (ne_role kq75 kq13 (by decide))]; exact kq75
  have kq78 : C87 q78 = 7 := by rw [eC87, va_up_ne _ _ (ne_role kq78 kq13 (by decide))]; exact kq78
  have kq81 : C87 q81 = 7 := by rw [eC87, va_up_ne _ _ (ne_role kq81 kq13 (by decide))]; exact kq81
  have kq84 : C87 q84 = 7 := by rw [eC87, va_up_ne _ _ (ne_role kq84 kq13 (by decide))]; exact kq84
  have kq13 : C87 q13 = 57 := by rw [eC87, va_up_self]
  have hI88 : ∀ j, j < rN 9 → rLo 9 j ≤ (I85 q15 j).toInt ∧ (I85 q15 j).toInt ≤ rHi 9 j ∧ (rX 9 = true → (I85 q15 j).toInt ≤ 3 ∨ (I85 q15 j).toInt = 9) := by rw [riq15]; decide +kernel
  have hR88 : ∀ j, j < rN 9 → rR 9 j ≠ 0 → ∃ b, b ∈ L85 ∧ b ≠ q15 ∧ R86 q15 j = some b ∧ C87 b + 1 = rR 9 j := by
    intro j hj hn
    rw [rrq15]
    have hj : j < 7 := hj
    rcases (show j = 0 ∨ j = 1 ∨ j = 2 ∨ j = 3 ∨ j = 4 ∨ j = 5 ∨ j = 6 by omega) with rfl | rfl | rfl | rfl | rfl | rfl | rfl
    · exact ⟨q10, mq10, ne_role kq10 kq15 (by decide), rfl, by rw [kq10]; rfl⟩
    · exact ⟨q13, mq13, ne_role kq13 kq15 (by decide), rfl, by rw [kq13]; rfl⟩
    · exact ⟨z16_q1, mz16_q1, ne_role kz16_q1 kq15 (by decide), rfl, by rw [kz16_q1]; rfl⟩
    · exact ⟨z16_q3, mz16_q3, ne_role kz16_q3 kq15 (by decide), rfl, by rw [kz16_q3]; rfl⟩
    · exact absurd rfl hn
    · exact absurd rfl hn
    · exact ⟨z16_q7, mz16_q7, ne_role kz16_q7 kq15 (by decide), rfl, by rw [kz16_q7]; rfl⟩
  have hH := hH.rel (q := q15) (r := 9) (by rw [kq15]; rfl) (by rw [kq15]; rfl)
  have kk := kk.rel mq15 kq15 (Or.inl ⟨by decide, by decide⟩) hI88 hR88 (Or.inr rfl) (fun h => absurd h (by decide)) (by decide) (by decide)
  have old := old.rel (q := q15) (r := 9) (Or.inr nq15)
  obtain ⟨C88, eC88⟩ : ∃ z, z = va_up C87 q15 9 := ⟨_, rfl⟩
  rw [← eC88] at hH kk old
  have ka0 : C88 a0 = 26 := by rw [eC88, va_up_ne _ _ (ne_role ka0 kq15 (by decide))]; exact ka0
  have kq1 : C88 q1 = 6 := by rw [eC88, va_up_ne _ _ (ne_role kq1 kq15 (by decide))]; exact kq1
  have kq4 : C88 q4 = 0 := by rw [eC88, va_up_ne _ _ (ne_role kq4 kq15 (by decide))]; exact kq4
  have kq7 : C88 q7 = 2 := by rw [eC88, va_up_ne _ _ (ne_role kq7 kq15 (by decide))]; exact kq7
  have kq10 : C88 q10 = 3 := by rw [eC88, va_up_ne _ _ (ne_role kq10 kq15 (by decide))]; exact kq10
  have kq13 : C88 q13 = 57 := by rw [eC88, va_up_ne _ _ (ne_role kq13 kq15 (by decide))]; exact kq13
  have kz16_q7 : C88 z16_q7 = 47 := by rw [eC88, va_up_ne _ _ (ne_role kz16_q7 kq15 (by decide))]; exact kz16_q7
  have kz16_q3 : C88 z16_q3 = 46 := by rw [eC88, va_up_ne _ _ (ne_role kz16_q3 kq15 (by decide))]; exact kz16_q3
  have kz16_q1 : C88 z16_q1 = 45 := by rw [eC88, va_up_ne _ _ (ne_role kz16_q1 kq15 (by decide))]; exact kz16_q1
  have kq18 : C88 q18 = 8 := by rw [eC88, va_up_ne _ _ (ne_role kq18 kq15 (by decide))]; exact kq18
  have kq21 : C88 q21 = 4 := by rw [eC88, va_up_ne _ _ (ne_role kq21 kq15 (by decide))]; exact kq21
  have kq24 : C88 q24 = 1 := by rw [eC88, va_up_ne _ _ (ne_role kq24 kq15 (by decide))]; exact kq24
  have kq27 : C88 q27 = 7 := by rw [eC88, va_up_ne _ _ (ne_role kq27 kq15 (by decide))]; exact kq27
  have kq30 : C88 q30 = 7 := by rw [eC88, va_up_ne _ _ (ne_role kq30 kq15 (by decide))]; exact kq30
  have kq33 : C88 q33 = 7 := by rw [eC88, va_up_ne _ _ (ne_role kq33 kq15 (by decide))]; exact kq33
  have kq36 : C88 q36 = 7 := by rw [eC88, va_up_ne _ _ (ne_role kq36 kq15 (by decide))]; exact kq36
  have kq39 : C88 q39 = 7 := by rw [eC88, va_up_ne _ _ (ne_role kq39 kq15 (by decide))]; exact kq39
  have kq42 : C88 q42 = 7 := by rw [eC88, va_up_ne _ _ (ne_role kq42 kq15 (by decide))]; exact kq42
  have kq45 : C88 q45 = 7 := by rw [eC88, va_up_ne _ _ (ne_role kq45 kq15 (by decide))]; exact kq45
  have kq48 : C88 q48 = 7 := by rw [eC88, va_up_ne _ _ (ne_role kq48 kq15 (by decide))]; exact kq48
  have kq51 : C88 q51 = 7 := by rw [eC88, va_up_ne _ _ (ne_role kq51 kq15 (by decide))]; exact kq51
  have kq54 : C88 q54 = 7 := by rw [eC88, va_up_ne _ _ (ne_role kq54 kq15 (by decide))]; exact kq54
  have kq57 : C88 q57 = 7 := by rw [eC88, va_up_ne _ _ (ne_role kq57 kq15 (by decide))]; exact kq57
  have kq60 : C88 q60 = 7 := by rw [eC88, va_up_ne _ _ (ne_role kq60 kq15 (by decide))]; exact kq60
  have kq63 : C88 q63 = 7 := by rw [eC88, va_up_ne _ _ (ne_role kq63 kq15 (by decide))]; exact kq63
  have kq66 : C88 q66 = 7 := by rw [eC88, va_up_ne _ _ (ne_role kq66 kq15 (by decide))]; exact kq66
  have kq69 : C88 q69 = 7 := by rw [eC88, va_up_ne _ _ (ne_role kq69 kq15 (by decide))]; exact kq69
  have kq72 : C88 q72 = 7 := by rw [eC88, va_up_ne _ _ (ne_role kq72 kq15 (by decide))]; exact kq72
  have kq75 : C88 q75 = 7 := by rw [eC88, va_up_ne _ _ (ne_role kq75 kq15 (by decide))]; exact kq75
  have kq78 : C88 q78 = 7 := by rw [eC88, va_up_ne _ _ (ne_role kq78 kq15 (by decide))]; exact kq78
  have kq81 : C88 q81 = 7 := by rw [eC88, va_up_ne _ _ (ne_role kq81 kq15 (by decide))]; exact kq81
  have kq84 : C88 q84 = 7 := by rw [eC88, va_up_ne _ _ (ne_role kq84 kq15 (by decide))]; exact kq84
  have kq15 : C88 q15 = 9 := by rw [eC88, va_up_self]
  have hI89 : ∀ j, j < rN 10 → rLo 10 j ≤ (I85 a0 j).toInt ∧ (I85 a0 j).toInt ≤ rHi 10 j ∧ (rX 10 = true → (I85 a0 j).toInt ≤ 3 ∨ (I85 a0 j).toInt = 9) := by rw [ria0]; decide +kernel
  have hR89 : ∀ j, j < rN 10 → rR 10 j ≠ 0 → ∃ b, b ∈ L85 ∧ b ≠ a0 ∧ R86 a0 j = some b ∧ C88 b + 1 = rR 10 j := by
    intro j hj hn
    rw [rra0]
    have hj : j < 9 := hj
    rcases (show j = 0 ∨ j = 1 ∨ j = 2 ∨ j = 3 ∨ j = 4 ∨ j = 5 ∨ j = 6 ∨ j = 7 ∨ j = 8 by omega) with rfl | rfl | rfl | rfl | rfl | rfl | rfl | rfl | rfl
    · exact ⟨q1, mq1, ne_role kq1 ka0 (by decide), rfl, by rw [kq1]; rfl⟩
    · exact ⟨q4, mq4, ne_role kq4 ka0 (by decide), rfl, by rw [kq4]; rfl⟩
    · exact ⟨q7, mq7, ne_role kq7 ka0 (by decide), rfl, by rw [kq7]; rfl⟩
    · exact ⟨q10, mq10, ne_role kq10 ka0 (by decide), rfl, by rw [kq10]; rfl⟩
    · exact ⟨q13, mq13, ne_role kq13 ka0 (by decide), rfl, by rw [kq13]; rfl⟩
    · exact ⟨q15, mq15, ne_role kq15 ka0 (by decide), rfl, by rw [kq15]; rfl⟩
    · exact ⟨q18, mq18, ne_role kq18 ka0 (by decide), rfl, by rw [kq18]; rfl⟩
    · exact ⟨q21, mq21, ne_role kq21 ka0 (by decide), rfl, by rw [kq21]; rfl⟩
    · exact ⟨q24, mq24, ne_role kq24 ka0 (by decide), rfl, by rw [kq24]; rfl⟩
  have hH := hH.rel (q := a0) (r := 10) (by rw [ka0]; rfl) (by rw [ka0]; rfl)
  have kk := kk.rel ma0 ka0 (Or.inl ⟨by decide, by decide⟩) hI89 hR89 (Or.inr rfl) (fun h => absurd h (by decide)) (by decide) (by decide)
  have old := old.rel (q := a0) (r := 10) (Or.inl rfl)
  obtain ⟨C89, eC89⟩ : ∃ z, z = va_up C88 a0 10 := ⟨_, rfl⟩
  rw [← eC89] at hH kk old
  have kq1 : C89 q1 = 6 := by rw [eC89, va_up_ne _ _ (ne_role kq1 ka0 (by decide))]; exact kq1
  have kq4 : C89 q4 = 0 := by rw [eC89, va_up_ne _ _ (ne_role kq4 ka0 (by decide))]; exact kq4
  have kq7 : C89 q7 = 2 := by rw [eC89, va_up_ne _ _ (ne_role kq7 ka0 (by decide))]; exact kq7
  have kq10 : C89 q10 = 3 := by rw [eC89, va_up_ne _ _ (ne_role kq10 ka0 (by decide))]; exact kq10
  have kq13 : C89 q13 = 57 := by rw [eC89, va_up_ne _ _ (ne_role kq13 ka0 (by decide))]; exact kq13
  have kq15 : C89 q15 = 9 := by rw [eC89, va_up_ne _ _ (ne_role kq15 ka0 (by decide))]; exact kq15
  have kz16_q7 : C89 z16_q7 = 47 := by rw [eC89, va_up_ne _ _ (ne_role kz16_q7 ka0 (by decide))]; exact kz16_q7
  have kz16_q3 : C89 z16_q3 = 46 := by rw [eC89, va_up_ne _ _ (ne_role kz16_q3 ka0 (by decide))]; exact kz16_q3
  have kz16_q1 : C89 z16_q1 = 45 := by rw [eC89, va_up_ne _ _ (ne_role kz16_q1 ka0 (by decide))]; exact kz16_q1
  have kq18 : C89 q18 = 8 := by rw [eC89, va_up_ne _ _ (ne_role kq18 ka0 (by decide))]; exact kq18
  have kq21 : C89 q21 = 4 := by rw [eC89, va_up_ne _ _ (ne_role kq21 ka0 (by decide))]; exact kq21
  have kq24 : C89 q24 = 1 := by rw [eC89, va_up_ne _ _ (ne_role kq24 ka0 (by decide))]; exact kq24
  have kq27 : C89 q27 = 7 := by rw [eC89, va_up_ne _ _ (ne_role kq27 ka0 (by decide))]; exact kq27
  have kq30 : C89 q30 = 7 := by rw [eC89, va_up_ne _ _ (ne_role kq30 ka0 (by decide))]; exact kq30
  have kq33 : C89 q33 = 7 := by rw [eC89, va_up_ne _ _ (ne_role kq33 ka0 (by decide))]; exact kq33
  have kq36 : C89 q36 = 7 := by rw [eC89, va_up_ne _ _ (ne_role kq36 ka0 (by decide))]; exact kq36
  have kq39 : C89 q39 = 7 := by rw [eC89, va_up_ne _ _ (ne_role kq39 ka0 (by decide))]; exact kq39
  have kq42 : C89 q42 = 7 := by rw [eC89, va_up_ne _ _ (ne_role kq42 ka0 (by decide))]; exact kq42
  have kq45 : C89 q45 = 7 := by rw [eC89, va_up_ne _ _ (ne_role kq45 ka0 (by decide))]; exact kq45
  have kq48 : C89 q48 = 7 := by rw [eC89, va_up_ne _ _ (ne_role kq48 ka0 (by decide))]; exact kq48
  have kq51 : C89 q51 = 7 := by rw [eC89, va_up_ne _ _ (ne_role kq51 ka0 (by decide))]; exact kq51
  have kq54 : C89 q54 = 7 := by rw [eC89, va_up_ne _ _ (ne_role kq54 ka0 (by decide))]; exact kq54
  have kq57 : C89 q57 = 7 := by rw [eC89, va_up_ne _ _ (ne_role kq57 ka0 (by decide))]; exact kq57
  have kq60 : C89 q60 = 7 := by rw [eC89, va_up_ne _ _ (ne_role kq60 ka0 (by decide))]; exact kq60
  have kq63 : C89 q63 = 7 := by rw [eC89, va_up_ne _ _ (ne_role kq63 ka0 (by decide))]; exact kq63
  have kq66 : C89 q66 = 7 := by rw [eC89, va_up_ne _ _ (ne_role kq66 ka0 (by decide))]; exact kq66
  have kq69 : C89 q69 = 7 := by rw [eC89, va_up_ne _ _ (ne_role kq69 ka0 (by decide))]; exact kq69
  have kq72 : C89 q72 = 7 := by rw [eC89, va_up_ne _ _ (ne_role kq72 ka0 (by decide))]; exact kq72
  have kq75 : C89 q75 = 7 := by rw [eC89, va_up_ne _ _ (ne_role kq75 ka0 (by decide))]; exact kq75
  have kq78 : C89 q78 = 7 := by rw [eC89, va_up_ne _ _ (ne_role kq78 ka0 (by decide))]; exact kq78
  have kq81 : C89 q81 = 7 := by rw [eC89, va_up_ne _ _ (ne_role kq81 ka0 (by decide))]; exact kq81
  have kq84 : C89 q84 = 7 := by rw [eC89, va_up_ne _ _ (ne_role kq84 ka0 (by decide))]; exact kq84
  have ka0 : C89 a0 = 10 := by rw [eC89, va_up_self]
  have rq6_2 : R86 a0 6 = some q18 := by rw [rra0]; rfl
  refine W.widen (k := 435) (n := 2770) (by decide) (by decide) ?_
  exact ret _ _ _ _ _ _ _ _ _ dX10_init_164 hH ⟨(kk.wS rfl), old, ka0, ⟨q18, rq6_2, va_q18_2⟩⟩
