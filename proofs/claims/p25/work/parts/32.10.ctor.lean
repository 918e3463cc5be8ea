set_option maxHeartbeats 4000000 in
set_option maxRecDepth 100000 in
theorem c_X10_init {l : Launch} {D : va_G} {cy : Nat → ClassId} {L0 : List Nat} {C0 : Nat → Nat} {b0 : Nat} {I0 : hI} {J0 : hJ} {R0 : hR} {a0 : Nat} (kk : KK L0 C0 I0 R0 [26]) (ma0 : a0 ∈ L0) (ka0 : C0 a0 = 26) (ria0 : I0 a0 = il []) (rra0 : R0 a0 = rl []) (z0 : Z0 L0 C0 I0 J0) (ow0 : Ow L0 C0 R0) : CA l yX10_init cX10_init 2 4 435 2770 D cy L0 C0 b0 [.ref a0] (I0, J0, R0) (fun q => KK q.1 q.2.1 q.2.2.1 q.2.2.2.2 [0, 1, 2, 3, 4, 5, 6, 7, 8, 9, 10, 16, 17, 18, 19, 20, 21, 22, 23, 24, 25, 26, 32, 33, 34, 35, 36, 37, 38, 39, 40, 41, 42, 43, 44, 45, 46, 47, 48, 49, 50, 51, 52, 53, 54, 55, 56, 57, 58, 59, 60] ∧ Old L0 C0 (I0, J0, R0) a0 q.1 q.2.1 q.2.2.1 q.2.2.2.1 q.2.2.2.2 ∧ q.2.1 a0 = 10 ∧ Z0 q.1 q.2.1 q.2.2.1 q.2.2.2.1 ∧ Ow q.1 q.2.1 q.2.2.2.2 ∧ (∃ w_q1 w_z2_0 w_z2_1 w_z2_2 w_z2_3 w_z2_4 w_z2_5 : Nat, AJ q.1 q.2.1 q.2.2.1 [(w_q1, 6, (false, [(6, 12)])), (w_z2_0, 37, (true, [(11, 1), (10, 1), (9, 1), (8, 1), (7, 1), (6, 1), (5, 1), (4, 1), (3, 1), (2, 1), (1, 1), (0, 1)])), (w_z2_1, 36, (true, [(11, 0), (10, 0), (9, 0), (8, 0), (7, 0), (6, 0), (5, 0), (4, 0), (3, 0), (2, 0), (1, 0), (0, 0)])), (w_z2_2, 35, (true, [(11, 1), (10, 1), (9, 1), (8, 10), (7, 1), (6, 1), (5, 1), (4, 1), (3, 1), (2, 1), (1, 1), (0, 1)])), (w_z2_3, 34, (true, [(11, 5), (10, 2), (9, 6), (8, 3), (7, 6), (6, 2), (5, 5), (4, 5), (3, 5), (2, 1), (1, 1), (0, 1)])), (w_z2_4, 33, (true, [(11, 6), (10, 1), (9, 3), (8, 5), (7, 4), (6, 0), (5, 0), (4, 1), (3, 2), (2, 3), (1, 2), (0, 1)])), (w_z2_5, 32, (true, [(11, 1), (10, 6), (9, 5), (8, 3), (7, 2), (6, 4), (5, 1), (4, 2), (3, 3), (2, 2), (1, 1), (0, 0)]))]) ∧ (((∃ ru : Nat, ru ∈ q.1 ∧ q.2.1 ru = 6 ∧ TbH q.1 q.2.1 q.2.2.1 q.2.2.2.2 ru) ∧ ∃ ww : Nat, ww ∈ q.1 ∧ q.2.1 ww = 45 ∧ ∀ j, j < 100 → q.2.2.1 ww j = -1) ∧ (∃ kc a b : Nat, kc ∈ q.1 ∧ q.2.1 kc = 1 ∧ a ∈ q.1 ∧ q.2.1 a = 53 ∧ b ∈ q.1 ∧ q.2.1 b = 53 ∧ q.2.2.2.2 kc 8 = some a ∧ q.2.2.2.2 kc 9 = some b ∧ a ≠ b))) := by
  refine CA.mk (plainFor_of_name (by decide)) (Nat.le_of_ble_eq_true rfl) ?_
  intro p e s m args below meth c ls Q hF hin ret hH hl
  obtain ⟨hx, hb, -, hml, hown, hts, -⟩ := hF
  have hl : lv_has ls 2 [(0, .ref a0)] := hl
  have hH : Hp D cy L0 C0 b0 s s.heap I0 J0 R0 s.heap [] := hH
  have old : Old L0 C0 (I0, J0, R0) a0 L0 C0 I0 J0 R0 := Old.rf
  have hS0 := kk.2.2.2.1
  have kk0 := kk.2.1
  have al : AJ L0 C0 I0 [] := AJ.nil
  have nl : NL L0 [] := NL.nil
  refine lv_aload_n hx hb dX10_init_0 rfl (lv_at hl 0 rfl) ?_
  refine W.objInit hx hb hown (hts _ km_X10_3) (hts _ ki_objectInit) (hts _ kc_objectInit) rfl (by rw [hml]; exact hl.1) rfl dX10_init_1 (Nat.le_of_ble_eq_true rfl) (Nat.le_of_ble_eq_true rfl) ?_
  refine W.eq (g2 := F0 m 4 ls []) rfl ?_
  refine lv_aload_n hx hb dX10_init_4 rfl (lv_at hl 0 rfl) ?_
  refine hNew (ci := 6) (N := 12) hx hb hts hown hH inX6 tyX6_ok rfl (by decide) rfl df_6 kcl_X10_9 kinst_X6 kini_X6 (by decide) (by decide) dX10_init_5 (fun q1 L1 C1 I1 J1 R1 H g1 eI1 eJ1 eR1 hH => ?_)
  have nq1 : q1 ∉ L0 := fun h => g1.2.2 (old q1 h).1
  have rra0 : R1 a0 = rl [] := by rw [eR1, va_up_ne _ _ (g1.ne ma0)]; exact rra0
  have ria0 : I1 a0 = il [] := by rw [eI1, va_up_ne _ _ (g1.ne ma0)]; exact ria0
  have ka0 := g1.role ma0 ka0
  have ma0 := g1.mem ma0
  have mq1 := g1.new
  have kq1 := g1.at
  have al := al.new g1 eI1
  have z0 := z0.new g1 eI1 eJ1
  have ow0 := ow0.new g1 eR1
  have nl := nl.new g1
  have rrq1 : R1 q1 = rl [] := by rw [eR1, va_up_self]; rfl
  have riq1 : I1 q1 = il [] := by rw [eI1, va_up_self]; rfl
  have kk := kk.new g1 eI1 eR1 zz_22 zr_22 (Or.inl rfl) (by decide)
  have old := old.new g1 eI1 eJ1 eR1
  refine lv_dup hx hb dX10_init_8 rfl ?_
  refine afA (va_runI (As := []) (rest := [.ref q1, .ref a0]) ⟨hx, hb, hml, hown, hts⟩ (c_X6_init kk mq1 kq1 riq1 rrq1 z0 ow0) ⟨callB_of 0 hts (wG_code kc_yX6_init) rfl rfl rfl (hts _ kini_X6) (hts _ km_X10_11) ⟨by decide, by decide, by decide +kernel⟩ ⟨by decide, by decide⟩, rfl, hts _ ki_yX6_init⟩ (preS hH) rfl rfl hl.1 rfl (lv_room (Nat.le_of_ble_eq_true rfl)) dX10_init_9 ⟨by decide, by decide⟩) hH (fun L2 C2 I2 J2 R2 H locs hp hH => ?_)
  obtain ⟨kk, od2, kq2, z0, ow0, ⟨z2_0, z2_1, z2_2, z2_3, z2_4, z2_5, ae2⟩, tb⟩ := hp
  have ne2 : a0 ≠ q1 := ne_role ka0 kq1 (by decide)
  have rra0 : R2 a0 = rl [] := ((od2 a0 ma0).2 ne2).2.2.2.trans rra0
  have ria0 : I2 a0 = il [] := ((od2 a0 ma0).2 ne2).2.1.trans ria0
  have ka0 : C2 a0 = 26 := ((od2 a0 ma0).2 ne2).1.trans ka0
  have ma0 := (od2 a0 ma0).1
  have al := al.old od2 kq1 rfl
  have kq1 : C2 q1 = 6 := kq2
  have mq1 := (od2 q1 mq1).1
  have old := old.ctor od2 nq1
  have nl := nl.old od2
  have al := ae2.app al
  have okn := kk.2.1
  have mtbq := mq1
  have ktbq := kq1
  have katb := ka0
  have oldB : Old L2 C2 (I2, J2, R2) a0 L2 C2 I2 J2 R2 := Old.rf
  refine pf_10_0 hx hb hts hown hH hin rfl ma0 ka0 rfl kf_X10_12 dX10_init_12 (fun R3 H locs eR3 hH => ?_)
  have rra0 : R3 a0 = rl [(0, q1)] := by rw [eR3]; exact rl_put rra0
  have kk : KK L2 C2 I2 R3 [6, 22, 26, 32, 33, 34, 35, 36, 37, 38, 39] := by rw [eR3]; exact kk.stR ka0 zr_26
  have old : Old L0 C0 (I0, J0, R0) a0 L2 C2 I2 J2 R3 := by rw [eR3]; exact old.stR (Or.inl rfl)
  have oldB : Old L2 C2 (I2, J2, R2) a0 L2 C2 I2 J2 R3 := by rw [eR3]; exact oldB.stR (Or.inl rfl)
  have ow0 := ow0.stR ka0 rfl eR3
  refine lv_aload_n hx hb dX10_init_15 rfl (lv_at hl 0 rfl) ?_
  refine hNew (ci := 0) (N := 2) hx hb hts hown hH inX0 tyX0_ok rfl (by decide) rfl df_0 kcl_X10_16 kinst_X0 kini_X0 (by decide) (by decide) dX10_init_16 (fun q4 L4 C4 I4 J4 R4 H g4 eI4 eJ4 eR4 hH => ?_)
  have nq4 : q4 ∉ L0 := fun h => g4.2.2 (old q4 h).1
  have n2q4 : q4 ∉ L2 := fun h => g4.2.2 (oldB q4 h).1
  have rra0 : R4 a0 = rl [(0, q1)] := by rw [eR4, va_up_ne _ _ (g4.ne ma0)]; exact rra0
  have ria0 : I4 a0 = il [] := by rw [eI4, va_up_ne _ _ (g4.ne ma0)]; exact ria0
  have ka0 := g4.role ma0 ka0
  have ma0 := g4.mem ma0
  have mq4 := g4.new
  have kq4 := g4.at
  have al := al.new g4 eI4
  have z0 := z0.new g4 eI4 eJ4
  have ow0 := ow0.new g4 eR4
  have nl := nl.new g4
  have rrq4 : R4 q4 = rl [] := by rw [eR4, va_up_self]; rfl
  have riq4 : I4 q4 = il [] := by rw [eI4, va_up_self]; rfl
  have kk := kk.new g4 eI4 eR4 zz_16 zr_16 (Or.inl rfl) (by decide)
  have old := old.new g4 eI4 eJ4 eR4
  have oldB := oldB.new g4 eI4 eJ4 eR4
  refine lv_dup hx hb dX10_init_19 rfl ?_
  refine afA (va_runIN (As := []) (rest := [.ref q4, .ref a0]) ⟨hx, hb, hml, hown, hts⟩ (c_X0_init kk mq4 kq4 riq4 rrq4 z0 ow0) ⟨va_cnB 0 hts (wG_code kc_yX0_init) rfl rfl rfl (hH.2.2.2.2.2.1 _ kn_X10_18) (hts _ kini_X0) ⟨by decide, by decide, by decide +kernel⟩ ⟨by decide, by decide⟩, rfl, hts _ ki_yX0_init⟩ (preS hH) rfl rfl hl.1 rfl (lv_room (Nat.le_of_ble_eq_true rfl)) dX10_init_20 ⟨by decide, by decide⟩) hH (fun L5 C5 I5 J5 R5 H locs hp hH => ?_)
  obtain ⟨kk, od5, kq5, z0, ow0⟩ := hp
  have ne5 : a0 ≠ q4 := ne_role ka0 kq4 (by decide)
  have rra0 : R5 a0 = rl [(0, q1)] := ((od5 a0 ma0).2 ne5).2.2.2.trans rra0
  have ria0 : I5 a0 = il [] := ((od5 a0 ma0).2 ne5).2.1.trans ria0
  have ka0 : C5 a0 = 26 := ((od5 a0 ma0).2 ne5).1.trans ka0
  have ma0 := (od5 a0 ma0).1
  have al := al.old od5 kq4 rfl
  have kq4 : C5 q4 = 0 := kq5
  have mq4 := (od5 q4 mq4).1
  have old := old.ctor od5 nq4
  have oldB := oldB.ctor od5 n2q4
  have nl := nl.old od5
  have al := al.con0 mq4 kq4 rfl
  refine pf_10_1 hx hb hts hown hH hin rfl ma0 ka0 rfl kf_X10_19 dX10_init_23 (fun R6 H locs eR6 hH => ?_)
  have rra0 : R6 a0 = rl [(1, q4), (0, q1)] := by rw [eR6]; exact rl_put rra0
  have kk : KK L5 C5 I5 R6 [0, 6, 16, 22, 26, 32, 33, 34, 35, 36, 37, 38, 39, 40] := by rw [eR6]; exact kk.stR ka0 zr_26
  have old : Old L0 C0 (I0, J0, R0) a0 L5 C5 I5 J5 R6 := by rw [eR6]; exact old.stR (Or.inl rfl)
  have oldB : Old L2 C2 (I2, J2, R2) a0 L5 C5 I5 J5 R6 := by rw [eR6]; exact oldB.stR (Or.inl rfl)
  have ow0 := ow0.stR ka0 rfl eR6
  refine lv_aload_n hx hb dX10_init_26 rfl (lv_at hl 0 rfl) ?_
  refine hNew (ci := 2) (N := 2) hx hb hts hown hH inX2 tyX2_ok rfl (by decide) rfl df_2 kcl_X10_23 kinst_X2 kini_X2 (by decide) (by decide) dX10_init_27 (fun q7 L7 C7 I7 J7 R7 H g7 eI7 eJ7 eR7 hH => ?_)
  have nq7 : q7 ∉ L0 := fun h => g7.2.2 (old q7 h).1
  have n2q7 : q7 ∉ L2 := fun h => g7.2.2 (oldB q7 h).1
  have rra0 : R7 a0 = rl [(1, q4), (0, q1)] := by rw [eR7, va_up_ne _ _ (g7.ne ma0)]; exact rra0
  have ria0 : I7 a0 = il [] := by rw [eI7, va_up_ne _ _ (g7.ne ma0)]; exact ria0
  have ka0 := g7.role ma0 ka0
  have ma0 := g7.mem ma0
  have mq7 := g7.new
  have kq7 := g7.at
  have al := al.new g7 eI7
  have z0 := z0.new g7 eI7 eJ7
  have ow0 := ow0.new g7 eR7
  have nl := nl.new g7
  have rrq7 : R7 q7 = rl [] := by rw [eR7, va_up_self]; rfl
  have riq7 : I7 q7 = il [] := by rw [eI7, va_up_self]; rfl
  have kk := kk.new g7 eI7 eR7 zz_18 zr_18 (Or.inl rfl) (by decide)
  have old := old.new g7 eI7 eJ7 eR7
  have oldB := oldB.new g7 eI7 eJ7 eR7
  refine lv_dup hx hb dX10_init_30 rfl ?_
  refine afA (va_runIN (As := []) (rest := [.ref q7, .ref a0]) ⟨hx, hb, hml, hown, hts⟩ (c_X2_init kk mq7 kq7 riq7 rrq7 z0 ow0) ⟨va_cnB 0 hts (wG_code kc_yX2_init) rfl rfl rfl (hH.2.2.2.2.2.1 _ kn_X10_25) (hts _ kini_X2) ⟨by decide, by decide, by decide +kernel⟩ ⟨by decide, by decide⟩, rfl, hts _ ki_yX2_init⟩ (preS hH) rfl rfl hl.1 rfl (lv_room (Nat.le_of_ble_eq_true rfl)) dX10_init_31 ⟨by decide, by decide⟩) hH (fun L8 C8 I8 J8 R8 H locs hp hH => ?_)
  obtain ⟨kk, od8, kq8, z0, ow0⟩ := hp
  have ne8 : a0 ≠ q7 := ne_role ka0 kq7 (by decide)
  have rra0 : R8 a0 = rl [(1, q4), (0, q1)] := ((od8 a0 ma0).2 ne8).2.2.2.trans rra0
  have ria0 : I8 a0 = il [] := ((od8 a0 ma0).2 ne8).2.1.trans ria0
  have ka0 : C8 a0 = 26 := ((od8 a0 ma0).2 ne8).1.trans ka0
  have ma0 := (od8 a0 ma0).1
  have al := al.old od8 kq7 rfl
  have kq7 : C8 q7 = 2 := kq8
  have mq7 := (od8 q7 mq7).1
  have old := old.ctor od8 nq7
  have oldB := oldB.ctor od8 n2q7
  have nl := nl.old od8
  have al := al.con0 mq7 kq7 rfl
  refine pf_10_2 hx hb hts hown hH hin rfl ma0 ka0 rfl kf_X10_26 dX10_init_34 (fun R9 H locs eR9 hH => ?_)
  have rra0 : R9 a0 = rl [(2, q7), (1, q4), (0, q1)] := by rw [eR9]; exact rl_put rra0
  have kk : KK L8 C8 I8 R9 [0, 2, 6, 16, 18, 22, 26, 32, 33, 34, 35, 36, 37, 38, 39, 40, 41, 42] := by rw [eR9]; exact kk.stR ka0 zr_26
  have old : Old L0 C0 (I0, J0, R0) a0 L8 C8 I8 J8 R9 := by rw [eR9]; exact old.stR (Or.inl rfl)
  have oldB : Old L2 C2 (I2, J2, R2) a0 L8 C8 I8 J8 R9 := by rw [eR9]; exact oldB.stR (Or.inl rfl)
  have ow0 := ow0.stR ka0 rfl eR9
  refine lv_aload_n hx hb dX10_init_37 rfl (lv_at hl 0 rfl) ?_
  refine hNew (ci := 3) (N := 7) hx hb hts hown hH inX3 tyX3_ok rfl (by decide) rfl df_3 kcl_X10_30 kinst_X3 kini_X3 (by decide) (by decide) dX10_init_38 (fun q10 L10 C10 I10 J10 R10 H g10 eI10 eJ10 eR10 hH => ?_)
  have nq10 : q10 ∉ L0 := fun h => g10.2.2 (old q10 h).1
  have n2q10 : q10 ∉ L2 := fun h => g10.2.2 (oldB q10 h).1
  have rra0 : R10 a0 = rl [(2, q7), (1, q4), (0, q1)] := by rw [eR10, va_up_ne _ _ (g10.ne ma0)]; exact rra0
  have ria0 : I10 a0 = il [] := by rw [eI10, va_up_ne _ _ (g10.ne ma0)]; exact ria0
  have ka0 := g10.role ma0 ka0
  have ma0 := g10.mem ma0
  have mq10 := g10.new
  have kq10 := g10.at
  have al := al.new g10 eI10
  have z0 := z0.new g10 eI10 eJ10
  have ow0 := ow0.new g10 eR10
  have nl := nl.new g10
  have rrq10 : R10 q10 = rl [] := by rw [eR10, va_up_self]; rfl
  have riq10 : I10 q10 = il [] := by rw [eI10, va_up_self]; rfl
  have kk := kk.new g10 eI10 eR10 zz_19 zr_19 (Or.inl rfl) (by decide)
  have old := old.new g10 eI10 eJ10 eR10
  have oldB := oldB.new g10 eI10 eJ10 eR10
  refine lv_dup hx hb dX10_init_41 rfl ?_
  refine lv_aload_n hx hb dX10_init_42 rfl (lv_at hl 0 rfl) ?_
  refine gf_10_0 (b := q1) (by rw [rra0]; rfl) hx hb hts hown hH ma0 ka0 rfl kf_X10_12 dX10_init_43 ?_
  refine lv_aload_n hx hb dX10_init_46 rfl (lv_at hl 0 rfl) ?_
  refine gf_10_1 (b := q4) (by rw [rra0]; rfl) hx hb hts hown hH ma0 ka0 rfl kf_X10_19 dX10_init_47 ?_
  refine lv_aload_n hx hb dX10_init_50 rfl (lv_at hl 0 rfl) ?_
  refine gf_10_2 (b := q7) (by rw [rra0]; rfl) hx hb hts hown hH ma0 ka0 rfl kf_X10_26 dX10_init_51 ?_
  have mq1 : q1 ∈ L10 := (al.at (i := 2) rfl).1
  have kq1 : C10 q1 = 6 := (al.at (i := 2) rfl).2
  have mq4 : q4 ∈ L10 := (al.at (i := 1) rfl).1
  have kq4 : C10 q4 = 0 := (al.at (i := 1) rfl).2
  have mq7 : q7 ∈ L10 := (al.at (i := 0) rfl).1
  have kq7 : C10 q7 = 2 := (al.at (i := 0) rfl).2
  refine afA (va_runI (As := [.ref q1, .ref q4, .ref q7]) (rest := [.ref q10, .ref a0]) ⟨hx, hb, hml, hown, hts⟩ (c_X3_init kk mq10 kq10 riq10 rrq10 mq1 kq1 mq4 kq4 mq7 kq7 z0 ow0) ⟨callB_of 3 hts (wG_code kc_yX3_init) rfl rfl rfl (hts _ kini_X3) (hts _ km_X10_32) ⟨by decide, by decide, by decide +kernel⟩ ⟨by decide, by decide⟩, rfl, hts _ ki_yX3_init⟩ (preS hH) rfl rfl hl.1 rfl (lv_room (Nat.le_of_ble_eq_true rfl)) dX10_init_54 ⟨by decide, by decide⟩) hH (fun L11 C11 I11 J11 R11 H locs hp hH => ?_)
  obtain ⟨kk, od11, kq11, z0, ow0⟩ := hp
  have ne11 : a0 ≠ q10 := ne_role ka0 kq10 (by decide)
  have rra0 : R11 a0 = rl [(2, q7), (1, q4), (0, q1)] := ((od11 a0 ma0).2 ne11).2.2.2.trans rra0
  have ria0 : I11 a0 = il [] := ((od11 a0 ma0).2 ne11).2.1.trans ria0
  have ka0 : C11 a0 = 26 := ((od11 a0 ma0).2 ne11).1.trans ka0
  have ma0 := (od11 a0 ma0).1
  have al := al.old od11 kq10 rfl
  have kq10 : C11 q10 = 3 := kq11
  have mq10 := (od11 q10 mq10).1
  have old := old.ctor od11 nq10
  have oldB := oldB.ctor od11 n2q10
  have nl := nl.old od11
  have al := al.con0 mq10 kq10 rfl
  refine pf_10_3 hx hb hts hown hH hin rfl ma0 ka0 rfl kf_X10_35 dX10_init_57 (fun R12 H locs eR12 hH => ?_)
  have rra0 : R12 a0 = rl [(3, q10), (2, q7), (1, q4), (0, q1)] := by rw [eR12]; exact rl_put rra0
  have kk : KK L11 C11 I11 R12 [0, 2, 3, 6, 16, 18, 19, 22, 26, 32, 33, 34, 35, 36, 37, 38, 39, 40, 41, 42, 43, 44] := by rw [eR12]; exact kk.stR ka0 zr_26
  have old : Old L0 C0 (I0, J0, R0) a0 L11 C11 I11 J11 R12 := by rw [eR12]; exact old.stR (Or.inl rfl)
  have oldB : Old L2 C2 (I2, J2, R2) a0 L11 C11 I11 J11 R12 := by rw [eR12]; exact oldB.stR (Or.inl rfl)
  have ow0 := ow0.stR ka0 rfl eR12
  refine lv_aload_n hx hb dX10_init_60 rfl (lv_at hl 0 rfl) ?_
  refine lv_bipush (v := 20) hx hb dX10_init_61 (by decide) ?_
  refine hNewQ (k := 4) (r := 60) (N := 20) (C0 := RX7) hx hb hts hown hH kcl_X10_39 hH.2.2.2.2.2.2.1.2 rfl (eN_S rfl rfl) (by decide) (by decide) (by decide) (by decide) (by decide) dX10_init_63 (fun q13 L13 C13 I13 J13 R13 H g13 eI13 eJ13 eR13 hH => ?_)
  have nq13 : q13 ∉ L0 := fun h => g13.2.2 (old q13 h).1
  have n2q13 : q13 ∉ L2 := fun h => g13.2.2 (oldB q13 h).1
  have rra0 : R13 a0 = rl [(3, q10), (2, q7), (1, q4), (0, q1)] := by rw [eR13, va_up_ne _ _ (g13.ne ma0)]; exact rra0
  have ria0 : I13 a0 = il [] := by rw [eI13, va_up_ne _ _ (g13.ne ma0)]; exact ria0
  have ka0 := g13.role ma0 ka0
  have ma0 := g13.mem ma0
  have mq13 := g13.new
  have kq13 := g13.at
  have al := al.new g13 eI13
  have z0 := z0.new g13 eI13 eJ13
  have ow0 := ow0.new g13 eR13
  have nl := nl.new g13
  have rrq13 : R13 q13 = rl [] := by rw [eR13, va_up_self]; rfl
  have riq13 : I13 q13 = il [] := by rw [eI13, va_up_self]; rfl
  have kk := kk.new g13 eI13 eR13 zz_60 zr_60 (Or.inl rfl) (by decide)
  have old := old.new g13 eI13 eJ13 eR13
  have oldB := oldB.new g13 eI13 eJ13 eR13
  refine pf_10_4 hx hb hts hown hH hin rfl ma0 ka0 rfl kf_X10_41 dX10_init_66 (fun R14 H locs eR14 hH => ?_)
  have rrq13 : R14 q13 = rl [] := by rw [eR14, u2_ne (ne_role kq13 ka0 (by decide))]; exact rrq13
  have rra0 : R14 a0 = rl [(4, q13), (3, q10), (2, q7), (1, q4), (0, q1)] := by rw [eR14]; exact rl_put rra0
  have kk : KK L13 C13 I13 R14 [60, 0, 2, 3, 6, 16, 18, 19, 22, 26, 32, 33, 34, 35, 36, 37, 38, 39, 40, 41, 42, 43, 44] := by rw [eR14]; exact kk.stR ka0 zr_26
  have old : Old L0 C0 (I0, J0, R0) a0 L13 C13 I13 J13 R14 := by rw [eR14]; exact old.stR (Or.inl rfl)
  have oldB : Old L2 C2 (I2, J2, R2) a0 L13 C13 I13 J13 R14 := by rw [eR14]; exact oldB.stR (Or.inl rfl)
  have ow0 := ow0.stR ka0 rfl eR14
  refine lv_aload_n hx hb dX10_init_69 rfl (lv_at hl 0 rfl) ?_
  refine hNew (ci := 9) (N := 7) hx hb hts hown hH inX9 tyX9_ok rfl (by decide) rfl df_9 kcl_X10_45 kinst_X9 kini_X9 (by decide) (by decide) dX10_init_70 (fun q15 L15 C15 I15 J15 R15 H g15 eI15 eJ15 eR15 hH => ?_)
  have nq15 : q15 ∉ L0 := fun h => g15.2.2 (old q15 h).1
  have n2q15 : q15 ∉ L2 := fun h => g15.2.2 (oldB q15 h).1
  have rra0 : R15 a0 = rl [(4, q13), (3, q10), (2, q7), (1, q4), (0, q1)] := by rw [eR15, va_up_ne _ _ (g15.ne ma0)]; exact rra0
  have ria0 : I15 a0 = il [] := by rw [eI15, va_up_ne _ _ (g15.ne ma0)]; exact ria0
  have ka0 := g15.role ma0 ka0
  have ma0 := g15.mem ma0
  have rrq13 : R15 q13 = rl [] := by rw [eR15, va_up_ne _ _ (g15.ne mq13)]; exact rrq13
  have riq13 : I15 q13 = il [] := by rw [eI15, va_up_ne _ _ (g15.ne mq13)]; exact riq13
  have kq13 := g15.role mq13 kq13
  have mq13 := g15.mem mq13
  have mq15 := g15.new
  have kq15 := g15.at
  have al := al.new g15 eI15
  have z0 := z0.new g15 eI15 eJ15
  have ow0 := ow0.new g15 eR15
  have nl := nl.new g15
  have rrq15 : R15 q15 = rl [] := by rw [eR15, va_up_self]; rfl
  have riq15 : I15 q15 = il [] := by rw [eI15, va_up_self]; rfl
  have kk := kk.new g15 eI15 eR15 zz_25 zr_25 (Or.inl rfl) (by decide)
  have old := old.new g15 eI15 eJ15 eR15
  have oldB := oldB.new g15 eI15 eJ15 eR15
  refine lv_dup hx hb dX10_init_73 rfl ?_
  refine lv_aload_n hx hb dX10_init_74 rfl (lv_at hl 0 rfl) ?_
  refine gf_10_3 (b := q10) (by rw [rra0]; rfl) hx hb hts hown hH ma0 ka0 rfl kf_X10_35 dX10_init_75 ?_
  refine lv_aload_n hx hb dX10_init_78 rfl (lv_at hl 0 rfl) ?_
  refine gf_10_4 (b := q13) (by rw [rra0]; rfl) hx hb hts hown hH ma0 ka0 rfl kf_X10_41 dX10_init_79 ?_
  have mq10 : q10 ∈ L15 := (al.at (i := 0) rfl).1
  have kq10 : C15 q10 = 3 := (al.at (i := 0) rfl).2
  refine afA (va_runI (As := [.ref q10, .ref q13]) (rest := [.ref q15, .ref a0]) ⟨hx, hb, hml, hown, hts⟩ (c_X9_init kk mq15 kq15 riq15 rrq15 mq10 kq10 mq13 kq13 z0 ow0) ⟨callB_of 2 hts (wG_code kc_yX9_init) rfl rfl rfl (hts _ kini_X9) (hts _ km_X10_47) ⟨by decide, by decide, by decide +kernel⟩ ⟨by decide, by decide⟩, rfl, hts _ ki_yX9_init⟩ (preS hH) rfl rfl hl.1 rfl (lv_room (Nat.le_of_ble_eq_true rfl)) dX10_init_82 ⟨by decide, by decide⟩) hH (fun L16 C16 I16 J16 R16 H locs hp hH => ?_)
  obtain ⟨kk, od16, kq16, xr16, z0, ow0, wx⟩ := hp
  have ne16 : a0 ≠ q15 := ne_role ka0 kq15 (by decide)
  have rra0 : R16 a0 = rl [(4, q13), (3, q10), (2, q7), (1, q4), (0, q1)] := ((od16 a0 ma0).2 ne16).2.2.2.trans rra0
  have ria0 : I16 a0 = il [] := ((od16 a0 ma0).2 ne16).2.1.trans ria0
  have ka0 : C16 a0 = 26 := ((od16 a0 ma0).2 ne16).1.trans ka0
  have ma0 := (od16 a0 ma0).1
  have ne16 : q13 ≠ q15 := ne_role kq13 kq15 (by decide)
  have rrq13 : R16 q13 = rl [] := ((od16 q13 mq13).2 ne16).2.2.2.trans rrq13
  have riq13 : I16 q13 = il [] := ((od16 q13 mq13).2 ne16).2.1.trans riq13
  have kq13 : C16 q13 = 60 := ((od16 q13 mq13).2 ne16).1.trans kq13
  have mq13 := (od16 q13 mq13).1
  have al := al.old od16 kq15 rfl
  have kq15 : C16 q15 = 25 := kq16
  have mq15 := (od16 q15 mq15).1
  have old := old.ctor od16 nq15
  have oldB := oldB.ctor od16 n2q15
  have nl := nl.old od16
  obtain ⟨z16_q7, z16_q3, z16_q1, rrq15, riq15, ⟨mz16_q7, kz16_q7⟩, ⟨mz16_q3, kz16_q3⟩, ⟨mz16_q1, kz16_q1⟩⟩ := xr16
  have al := al.con0 mz16_q7 kz16_q7 rfl
  have al := al.con0 mz16_q3 kz16_q3 rfl
  have al := al.con0 mz16_q1 kz16_q1 rfl
  have tb := tb.old okn mtbq ktbq (fun c0 _ hc => fun e => by rw [e] at hc; (try dsimp only at hc); rw [katb] at hc; omega) oldB
  have mtb9 := (oldB _ mtbq).1
  have ktbq := ((oldB _ mtbq).2 (ne_role ktbq katb (by decide))).1.trans ktbq
  have mtbq := mtb9
  obtain ⟨wwq, mwq, kwq, wq⟩ := wx
  have okn := kk.2.1
  have katb := ka0
  have oldB : Old L16 C16 (I16, J16, R16) a0 L16 C16 I16 J16 R16 := Old.rf
  refine pf_10_5 hx hb hts hown hH hin rfl ma0 ka0 rfl kf_X10_50 dX10_init_85 (fun R17 H locs eR17 hH => ?_)
  have rrq13 : R17 q13 = rl [] := by rw [eR17, u2_ne (ne_role kq13 ka0 (by decide))]; exact rrq13
  have rrq15 : R17 q15 = rl [(1, q13), (0, q10), (6, z16_q7), (3, z16_q3), (2, z16_q1)] := by rw [eR17, u2_ne (ne_role kq15 ka0 (by decide))]; exact rrq15
  have rra0 : R17 a0 = rl [(5, q15), (4, q13), (3, q10), (2, q7), (1, q4), (0, q1)] := by rw [eR17]; exact rl_put rra0
  have kk : KK L16 C16 I16 R17 [0, 2, 3, 6, 16, 18, 19, 22, 25, 26, 32, 33, 34, 35, 36, 37, 38, 39, 40, 41, 42, 43, 44, 45, 46, 47, 60] := by rw [eR17]; exact kk.stR ka0 zr_26
  have old : Old L0 C0 (I0, J0, R0) a0 L16 C16 I16 J16 R17 := by rw [eR17]; exact old.stR (Or.inl rfl)
  have oldB : Old L16 C16 (I16, J16, R16) a0 L16 C16 I16 J16 R17 := by rw [eR17]; exact oldB.stR (Or.inl rfl)
  have ow0 := ow0.stR ka0 rfl eR17
  refine lv_aload_n hx hb dX10_init_88 rfl (lv_at hl 0 rfl) ?_
  refine hNew (ci := 8) (N := 3) hx hb hts hown hH inX8 tyX8_ok rfl (by decide) rfl df_8 kcl_X10_54 kinst_X8 kini_X8 (by decide) (by decide) dX10_init_89 (fun q18 L18 C18 I18 J18 R18 H g18 eI18 eJ18 eR18 hH => ?_)
  have nq18 : q18 ∉ L0 := fun h => g18.2.2 (old q18 h).1
  have n2q18 : q18 ∉ L16 := fun h => g18.2.2 (oldB q18 h).1
  have rra0 : R18 a0 = rl [(5, q15), (4, q13), (3, q10), (2, q7), (1, q4), (0, q1)] := by rw [eR18, va_up_ne _ _ (g18.ne ma0)]; exact rra0
  have ria0 : I18 a0 = il [] := by rw [eI18, va_up_ne _ _ (g18.ne ma0)]; exact ria0
  have ka0 := g18.role ma0 ka0
  have ma0 := g18.mem ma0
  have rrq13 : R18 q13 = rl [] := by rw [eR18, va_up_ne _ _ (g18.ne mq13)]; exact rrq13
  have riq13 : I18 q13 = il [] := by rw [eI18, va_up_ne _ _ (g18.ne mq13)]; exact riq13
  have kq13 := g18.role mq13 kq13
  have mq13 := g18.mem mq13
  have rrq15 : R18 q15 = rl [(1, q13), (0, q10), (6, z16_q7), (3, z16_q3), (2, z16_q1)] := by rw [eR18, va_up_ne _ _ (g18.ne mq15)]; exact rrq15
  have riq15 : I18 q15 = il [(5, 0), (4, 0)] := by rw [eI18, va_up_ne _ _ (g18.ne mq15)]; exact riq15
  have kq15 := g18.role mq15 kq15
  have mq15 := g18.mem mq15
  have mq18 := g18.new
  have kq18 := g18.at
  have al := al.new g18 eI18
  have z0 := z0.new g18 eI18 eJ18
  have ow0 := ow0.new g18 eR18
  have nl := nl.new g18
  have rrq18 : R18 q18 = rl [] := by rw [eR18, va_up_self]; rfl
  have riq18 : I18 q18 = il [] := by rw [eI18, va_up_self]; rfl
  have kk := kk.new g18 eI18 eR18 zz_24 zr_24 (Or.inl rfl) (by decide)
  have old := old.new g18 eI18 eJ18 eR18
  have oldB := oldB.new g18 eI18 eJ18 eR18
  refine lv_dup hx hb dX10_init_92 rfl ?_
  refine afA (va_runIN (As := []) (rest := [.ref q18, .ref a0]) ⟨hx, hb, hml, hown, hts⟩ (c_X8_init kk mq18 kq18 riq18 rrq18 z0 ow0) ⟨va_cnB 0 hts (wG_code kc_yX8_init) rfl rfl rfl (hH.2.2.2.2.2.1 _ kn_X10_56) (hts _ kini_X8) ⟨by decide, by decide, by decide +kernel⟩ ⟨by decide, by decide⟩, rfl, hts _ ki_yX8_init⟩ (preS hH) rfl rfl hl.1 rfl (lv_room (Nat.le_of_ble_eq_true rfl)) dX10_init_93 ⟨by decide, by decide⟩) hH (fun L19 C19 I19 J19 R19 H locs hp hH => ?_)
  obtain ⟨kk, od19, kq19, z0, ow0⟩ := hp
  have ne19 : a0 ≠ q18 := ne_role ka0 kq18 (by decide)
  have rra0 : R19 a0 = rl [(5, q15), (4, q13), (3, q10), (2, q7), (1, q4), (0, q1)] := ((od19 a0 ma0).2 ne19).2.2.2.trans rra0
  have ria0 : I19 a0 = il [] := ((od19 a0 ma0).2 ne19).2.1.trans ria0
  have ka0 : C19 a0 = 26 := ((od19 a0 ma0).2 ne19).1.trans ka0
  have ma0 := (od19 a0 ma0).1
  have ne19 : q13 ≠ q18 := ne_role kq13 kq18 (by decide)
  have rrq13 : R19 q13 = rl [] := ((od19 q13 mq13).2 ne19).2.2.2.trans rrq13
  have riq13 : I19 q13 = il [] := ((od19 q13 mq13).2 ne19).2.1.trans riq13
  have kq13 : C19 q13 = 60 := ((od19 q13 mq13).2 ne19).1.trans kq13
  have mq13 := (od19 q13 mq13).1
  have ne19 : q15 ≠ q18 := ne_role kq15 kq18 (by decide)
  have rrq15 : R19 q15 = rl [(1, q13), (0, q10), (6, z16_q7), (3, z16_q3), (2, z16_q1)] := ((od19 q15 mq15).2 ne19).2.2.2.trans rrq15
  have riq15 : I19 q15 = il [(5, 0), (4, 0)] := ((od19 q15 mq15).2 ne19).2.1.trans riq15
  have kq15 : C19 q15 = 25 := ((od19 q15 mq15).2 ne19).1.trans kq15
  have mq15 := (od19 q15 mq15).1
  have al := al.old od19 kq18 rfl
  have kq18 : C19 q18 = 8 := kq19
  have mq18 := (od19 q18 mq18).1
  have old := old.ctor od19 nq18
  have oldB := oldB.ctor od19 n2q18
  have nl := nl.old od19
  have al := al.con0 mq18 kq18 rfl
  refine pf_10_6 hx hb hts hown hH hin rfl ma0 ka0 rfl kf_X10_57 dX10_init_96 (fun R20 H locs eR20 hH => ?_)
  have rrq13 : R20 q13 = rl [] := by rw [eR20, u2_ne (ne_role kq13 ka0 (by decide))]; exact rrq13
  have rrq15 : R20 q15 = rl [(1, q13), (0, q10), (6, z16_q7), (3, z16_q3), (2, z16_q1)] := by rw [eR20, u2_ne (ne_role kq15 ka0 (by decide))]; exact rrq15
  have rra0 : R20 a0 = rl [(6, q18), (5, q15), (4, q13), (3, q10), (2, q7), (1, q4), (0, q1)] := by rw [eR20]; exact rl_put rra0
  have kk : KK L19 C19 I19 R20 [0, 2, 3, 6, 8, 16, 18, 19, 22, 24, 25, 26, 32, 33, 34, 35, 36, 37, 38, 39, 40, 41, 42, 43, 44, 45, 46, 47, 48, 49, 60] := by rw [eR20]; exact kk.stR ka0 zr_26
  have old : Old L0 C0 (I0, J0, R0) a0 L19 C19 I19 J19 R20 := by rw [eR20]; exact old.stR (Or.inl rfl)
  have oldB : Old L16 C16 (I16, J16, R16) a0 L19 C19 I19 J19 R20 := by rw [eR20]; exact oldB.stR (Or.inl rfl)
  have ow0 := ow0.stR ka0 rfl eR20
  refine lv_aload_n hx hb dX10_init_99 rfl (lv_at hl 0 rfl) ?_
  refine hNew (ci := 4) (N := 5) hx hb hts hown hH inX4 tyX4_ok rfl (by decide) rfl df_4 kcl_X10_61 kinst_X4 kini_X4 (by decide) (by decide) dX10_init_100 (fun q21 L21 C21 I21 J21 R21 H g21 eI21 eJ21 eR21 hH => ?_)
  have nq21 : q21 ∉ L0 := fun h => g21.2.2 (old q21 h).1
  have n2q21 : q21 ∉ L16 := fun h => g21.2.2 (oldB q21 h).1
  have rra0 : R21 a0 = rl [(6, q18), (5, q15), (4, q13), (3, q10), (2, q7), (1, q4), (0, q1)] := by rw [eR21, va_up_ne _ _ (g21.ne ma0)]; exact rra0
  have ria0 : I21 a0 = il [] := by rw [eI21, va_up_ne _ _ (g21.ne ma0)]; exact ria0
  have ka0 := g21.role ma0 ka0
  have ma0 := g21.mem ma0
  have rrq13 : R21 q13 = rl [] := by rw [eR21, va_up_ne _ _ (g21.ne mq13)]; exact rrq13
  have riq13 : I21 q13 = il [] := by rw [eI21, va_up_ne _ _ (g21.ne mq13)]; exact riq13
  have kq13 := g21.role mq13 kq13
  have mq13 := g21.mem mq13
  have rrq15 : R21 q15 = rl [(1, q13), (0, q10), (6, z16_q7), (3, z16_q3), (2, z16_q1)] := by rw [eR21, va_up_ne _ _ (g21.ne mq15)]; exact rrq15
  have riq15 : I21 q15 = il [(5, 0), (4, 0)] := by rw [eI21, va_up_ne _ _ (g21.ne mq15)]; exact riq15
  have kq15 := g21.role mq15 kq15
  have mq15 := g21.mem mq15
  have mq21 := g21.new
  have kq21 := g21.at
  have al := al.new g21 eI21
  have z0 := z0.new g21 eI21 eJ21
  have ow0 := ow0.new g21 eR21
  have nl := nl.new g21
  have rrq21 : R21 q21 = rl [] := by rw [eR21, va_up_self]; rfl
  have riq21 : I21 q21 = il [] := by rw [eI21, va_up_self]; rfl
  have kk := kk.new g21 eI21 eR21 zz_20 zr_20 (Or.inl rfl) (by decide)
  have old := old.new g21 eI21 eJ21 eR21
  have oldB := oldB.new g21 eI21 eJ21 eR21
  refine lv_dup hx hb dX10_init_103 rfl ?_
  refine afA (va_runIN (As := []) (rest := [.ref q21, .ref a0]) ⟨hx, hb, hml, hown, hts⟩ (c_X4_init kk mq21 kq21 riq21 rrq21 z0 ow0) ⟨va_cnB 0 hts (wG_code kc_yX4_init) rfl rfl rfl (hH.2.2.2.2.2.1 _ kn_X10_63) (hts _ kini_X4) ⟨by decide, by decide, by decide +kernel⟩ ⟨by decide, by decide⟩, rfl, hts _ ki_yX4_init⟩ (preS hH) rfl rfl hl.1 rfl (lv_room (Nat.le_of_ble_eq_true rfl)) dX10_init_104 ⟨by decide, by decide⟩) hH (fun L22 C22 I22 J22 R22 H locs hp hH => ?_)
  obtain ⟨kk, od22, kq22, z0, ow0⟩ := hp
  have ne22 : a0 ≠ q21 := ne_role ka0 kq21 (by decide)
  have rra0 : R22 a0 = rl [(6, q18), (5, q15), (4, q13), (3, q10), (2, q7), (1, q4), (0, q1)] := ((od22 a0 ma0).2 ne22).2.2.2.trans rra0
  have ria0 : I22 a0 = il [] := ((od22 a0 ma0).2 ne22).2.1.trans ria0
  have ka0 : C22 a0 = 26 := ((od22 a0 ma0).2 ne22).1.trans ka0
  have ma0 := (od22 a0 ma0).1
  have ne22 : q13 ≠ q21 := ne_role kq13 kq21 (by decide)
  have rrq13 : R22 q13 = rl [] := ((od22 q13 mq13).2 ne22).2.2.2.trans rrq13
  have riq13 : I22 q13 = il [] := ((od22 q13 mq13).2 ne22).2.1.trans riq13
  have kq13 : C22 q13 = 60 := ((od22 q13 mq13).2 ne22).1.trans kq13
  have mq13 := (od22 q13 mq13).1
  have ne22 : q15 ≠ q21 := ne_role kq15 kq21 (by decide)
  have rrq15 : R22 q15 = rl [(1, q13), (0, q10), (6, z16_q7), (3, z16_q3), (2, z16_q1)] := ((od22 q15 mq15).2 ne22).2.2.2.trans rrq15
  have riq15 : I22 q15 = il [(5, 0), (4, 0)] := ((od22 q15 mq15).2 ne22).2.1.trans riq15
  have kq15 : C22 q15 = 25 := ((od22 q15 mq15).2 ne22).1.trans kq15
  have mq15 := (od22 q15 mq15).1
  have al := al.old od22 kq21 rfl
  have kq21 : C22 q21 = 4 := kq22
  have mq21 := (od22 q21 mq21).1
  have old := old.ctor od22 nq21
  have oldB := oldB.ctor od22 n2q21
  have nl := nl.old od22
  have al := al.con0 mq21 kq21 rfl
  refine pf_10_7 hx hb hts hown hH hin rfl ma0 ka0 rfl kf_X10_64 dX10_init_107 (fun R23 H locs eR23 hH => ?_)
  have rrq13 : R23 q13 = rl [] := by rw [eR23, u2_ne (ne_role kq13 ka0 (by decide))]; exact rrq13
  have rrq15 : R23 q15 = rl [(1, q13), (0, q10), (6, z16_q7), (3, z16_q3), (2, z16_q1)] := by rw [eR23, u2_ne (ne_role kq15 ka0 (by decide))]; exact rrq15
  have rra0 : R23 a0 = rl [(7, q21), (6, q18), (5, q15), (4, q13), (3, q10), (2, q7), (1, q4), (0, q1)] := by rw [eR23]; exact rl_put rra0
  have kk : KK L22 C22 I22 R23 [0, 2, 3, 4, 6, 8, 16, 18, 19, 20, 22, 24, 25, 26, 32, 33, 34, 35, 36, 37, 38, 39, 40, 41, 42, 43, 44, 45, 46, 47, 48, 49, 60] := by rw [eR23]; exact kk.stR ka0 zr_26
  have old : Old L0 C0 (I0, J0, R0) a0 L22 C22 I22 J22 R23 := by rw [eR23]; exact old.stR (Or.inl rfl)
  have oldB : Old L16 C16 (I16, J16, R16) a0 L22 C22 I22 J22 R23 := by rw [eR23]; exact oldB.stR (Or.inl rfl)
  have ow0 := ow0.stR ka0 rfl eR23
  refine lv_aload_n hx hb dX10_init_110 rfl (lv_at hl 0 rfl) ?_
  refine hNew (ci := 1) (N := 11) hx hb hts hown hH inX1 tyX1_ok rfl (by decide) rfl df_1 kcl_X10_68 kinst_X1 kini_X1 (by decide) (by decide) dX10_init_111 (fun q24 L24 C24 I24 J24 R24 H g24 eI24 eJ24 eR24 hH => ?_)
  have nq24 : q24 ∉ L0 := fun h => g24.2.2 (old q24 h).1
  have n2q24 : q24 ∉ L16 := fun h => g24.2.2 (oldB q24 h).1
  have rra0 : R24 a0 = rl [(7, q21), (6, q18), (5, q15), (4, q13), (3, q10), (2, q7), (1, q4), (0, q1)] := by rw [eR24, va_up_ne _ _ (g24.ne ma0)]; exact rra0
  have ria0 : I24 a0 = il [] := by rw [eI24, va_up_ne _ _ (g24.ne ma0)]; exact ria0
  have ka0 := g24.role ma0 ka0
  have ma0 := g24.mem ma0
  have rrq13 : R24 q13 = rl [] := by rw [eR24, va_up_ne _ _ (g24.ne mq13)]; exact rrq13
  have riq13 : I24 q13 = il [] := by rw [eI24, va_up_ne _ _ (g24.ne mq13)]; exact riq13
  have kq13 := g24.role mq13 kq13
  have mq13 := g24.mem mq13
  have rrq15 : R24 q15 = rl [(1, q13), (0, q10), (6, z16_q7), (3, z16_q3), (2, z16_q1)] := by rw [eR24, va_up_ne _ _ (g24.ne mq15)]; exact rrq15
  have riq15 : I24 q15 = il [(5, 0), (4, 0)] := by rw [eI24, va_up_ne _ _ (g24.ne mq15)]; exact riq15
  have kq15 := g24.role mq15 kq15
  have mq15 := g24.mem mq15
  have mq24 := g24.new
  have kq24 := g24.at
  have al := al.new g24 eI24
  have z0 := z0.new g24 eI24 eJ24
  have ow0 := ow0.new g24 eR24
  have nl := nl.new g24
  have rrq24 : R24 q24 = rl [] := by rw [eR24, va_up_self]; rfl
  have riq24 : I24 q24 = il [] := by rw [eI24, va_up_self]; rfl
  have kk := kk.new g24 eI24 eR24 zz_17 zr_17 (Or.inl rfl) (by decide)
  have old := old.new g24 eI24 eJ24 eR24
  have oldB := oldB.new g24 eI24 eJ24 eR24
  refine lv_dup hx hb dX10_init_114 rfl ?_
  refine lv_aload_n hx hb dX10_init_115 rfl (lv_at hl 0 rfl) ?_
  refine gf_10_0 (b := q1) (by rw [rra0]; rfl) hx hb hts hown hH ma0 ka0 rfl kf_X10_12 dX10_init_116 ?_
  refine lv_aload_n hx hb dX10_init_119 rfl (lv_at hl 0 rfl) ?_
  refine gf_10_2 (b := q7) (by rw [rra0]; rfl) hx hb hts hown hH ma0 ka0 rfl kf_X10_26 dX10_init_120 ?_
  refine lv_aload_n hx hb dX10_init_123 rfl (lv_at hl 0 rfl) ?_
  refine gf_10_3 (b := q10) (by rw [rra0]; rfl) hx hb hts hown hH ma0 ka0 rfl kf_X10_35 dX10_init_124 ?_
  refine lv_aload_n hx hb dX10_init_127 rfl (lv_at hl 0 rfl) ?_
  refine gf_10_7 (b := q21) (by rw [rra0]; rfl) hx hb hts hown hH ma0 ka0 rfl kf_X10_64 dX10_init_128 ?_
  have mq1 : q1 ∈ L24 := (al.at (i := 8) rfl).1
  have kq1 : C24 q1 = 6 := (al.at (i := 8) rfl).2
  have mq7 : q7 ∈ L24 := (al.at (i := 6) rfl).1
  have kq7 : C24 q7 = 2 := (al.at (i := 6) rfl).2
  have mq10 : q10 ∈ L24 := (al.at (i := 5) rfl).1
  have kq10 : C24 q10 = 3 := (al.at (i := 5) rfl).2
  have mq21 : q21 ∈ L24 := (al.at (i := 0) rfl).1
  have kq21 : C24 q21 = 4 := (al.at (i := 0) rfl).2
  refine afA (va_runI (As := [.ref q1, .ref q7, .ref q10, .ref q21]) (rest := [.ref q24, .ref a0]) ⟨hx, hb, hml, hown, hts⟩ (c_X1_init kk mq24 kq24 riq24 rrq24 mq1 kq1 mq7 kq7 mq10 kq10 mq21 kq21 z0 ow0) ⟨callB_of 4 hts (wG_code kc_yX1_init) rfl rfl rfl (hts _ kini_X1) (hts _ km_X10_70) ⟨by decide, by decide, by decide +kernel⟩ ⟨by decide, by decide⟩, rfl, hts _ ki_yX1_init⟩ (preS hH) rfl rfl hl.1 rfl (lv_room (Nat.le_of_ble_eq_true rfl)) dX10_init_131 ⟨by decide, by decide⟩) hH (fun L25 C25 I25 J25 R25 H locs hp hH => ?_)
  obtain ⟨kk, od25, kq25, z0, ow0, wx⟩ := hp
  have ne25 : a0 ≠ q24 := ne_role ka0 kq24 (by decide)
  have rra0 : R25 a0 = rl [(7, q21), (6, q18), (5, q15), (4, q13), (3, q10), (2, q7), (1, q4), (0, q1)] := ((od25 a0 ma0).2 ne25).2.2.2.trans rra0
  have ria0 : I25 a0 = il [] := ((od25 a0 ma0).2 ne25).2.1.trans ria0
  have ka0 : C25 a0 = 26 := ((od25 a0 ma0).2 ne25).1.trans ka0
  have ma0 := (od25 a0 ma0).1
  have ne25 : q13 ≠ q24 := ne_role kq13 kq24 (by decide)
  have rrq13 : R25 q13 = rl [] := ((od25 q13 mq13).2 ne25).2.2.2.trans rrq13
  have riq13 : I25 q13 = il [] := ((od25 q13 mq13).2 ne25).2.1.trans riq13
  have kq13 : C25 q13 = 60 := ((od25 q13 mq13).2 ne25).1.trans kq13
  have mq13 := (od25 q13 mq13).1
  have ne25 : q15 ≠ q24 := ne_role kq15 kq24 (by decide)
  have rrq15 : R25 q15 = rl [(1, q13), (0, q10), (6, z16_q7), (3, z16_q3), (2, z16_q1)] := ((od25 q15 mq15).2 ne25).2.2.2.trans rrq15
  have riq15 : I25 q15 = il [(5, 0), (4, 0)] := ((od25 q15 mq15).2 ne25).2.1.trans riq15
  have kq15 : C25 q15 = 25 := ((od25 q15 mq15).2 ne25).1.trans kq15
  have mq15 := (od25 q15 mq15).1
  have al := al.old od25 kq24 rfl
  have kq24 : C25 q24 = 1 := kq25
  have mq24 := (od25 q24 mq24).1
  have old := old.ctor od25 nq24
  have oldB := oldB.ctor od25 n2q24
  have nl := nl.old od25
  have al := al.con0 mq24 kq24 rfl
  have tb := tb.old okn mtbq ktbq (fun c0 _ hc => fun e => by rw [e] at hc; (try dsimp only at hc); rw [katb] at hc; omega) oldB
  have mtb9 := (oldB _ mtbq).1
  have ktbq := ((oldB _ mtbq).2 (ne_role ktbq katb (by decide))).1.trans ktbq
  have mtbq := mtb9
  have wq : ∀ j, j < 100 → I25 wwq j = -1 := fun j hj => (congrFun ((oldB _ mwq).2 (ne_role kwq katb (by decide))).2.1 j).trans (wq j hj)
  have mw9 := (oldB _ mwq).1
  have kwq := ((oldB _ mwq).2 (ne_role kwq katb (by decide))).1.trans kwq
  have mwq := mw9
  obtain ⟨kcq, aq8, bq9, mkq, kkq, maq, kaq, mbq, kbq, vaq, vbq, nabq⟩ := wx
  have okn := kk.2.1
  have katb := ka0
  have oldB : Old L25 C25 (I25, J25, R25) a0 L25 C25 I25 J25 R25 := Old.rf
  refine pf_10_8 hx hb hts hown hH hin rfl ma0 ka0 rfl kf_X10_73 dX10_init_134 (fun R26 H locs eR26 hH => ?_)
  have rrq13 : R26 q13 = rl [] := by rw [eR26, u2_ne (ne_role kq13 ka0 (by decide))]; exact rrq13
  have rrq15 : R26 q15 = rl [(1, q13), (0, q10), (6, z16_q7), (3, z16_q3), (2, z16_q1)] := by rw [eR26, u2_ne (ne_role kq15 ka0 (by decide))]; exact rrq15
  have rra0 : R26 a0 = rl [(8, q24), (7, q21), (6, q18), (5, q15), (4, q13), (3, q10), (2, q7), (1, q4), (0, q1)] := by rw [eR26]; exact rl_put rra0
  have kk : KK L25 C25 I25 R26 [0, 1, 2, 3, 4, 5, 6, 8, 16, 17, 18, 19, 20, 21, 22, 24, 25, 26, 32, 33, 34, 35, 36, 37, 38, 39, 40, 41, 42, 43, 44, 45, 46, 47, 48, 49, 50, 51, 52, 53, 54, 55, 59, 60] := by rw [eR26]; exact kk.stR ka0 zr_26
  have old : Old L0 C0 (I0, J0, R0) a0 L25 C25 I25 J25 R26 := by rw [eR26]; exact old.stR (Or.inl rfl)
  have oldB : Old L25 C25 (I25, J25, R25) a0 L25 C25 I25 J25 R26 := by rw [eR26]; exact oldB.stR (Or.inl rfl)
  have ow0 := ow0.stR ka0 rfl eR26
  refine lv_iconst (v := 0) hx hb dX10_init_137 (by decide) ?_
  refine lv_istore_n (lv' := [(1, .int 0), (0, .ref a0)]) hx hb dX10_init_138 rfl hl (by decide) rfl (fun ls hl => ?_)
  refine lv_iload_n hx hb dX10_init_139 rfl (lv_at hl 0 rfl) ?_
  refine lv_bipush (v := 20) hx hb dX10_init_140 (by decide) ?_
  refine lv_icmp_ge (tgt := 164) hx hb dX10_init_142 (by decide) (fun q => absurd q (by decide)) (fun q => ?_)
  refine lv_aload_n hx hb dX10_init_145 rfl (lv_at hl 1 rfl) ?_
  refine gf_10_4 (b := q13) (by rw [rra0]; rfl) hx hb hts hown hH ma0 ka0 rfl kf_X10_41 dX10_init_146 ?_
  refine lv_iload_n hx hb dX10_init_149 rfl (lv_at hl 0 rfl) ?_
  refine hNew (ci := 7) (N := 2) hx hb hts hown hH inX7 tyX7_ok rfl (by decide) rfl df_7 kcl_X10_39 kinst_X7 kini_X7 (by decide) (by decide) dX10_init_150 (fun q27 L27 C27 I27 J27 R27 H g27 eI27 eJ27 eR27 hH => ?_)
  have nq27 : q27 ∉ L0 := fun h => g27.2.2 (old q27 h).1
  have n2q27 : q27 ∉ L25 := fun h => g27.2.2 (oldB q27 h).1
  have rra0 : R27 a0 = rl [(8, q24), (7, q21), (6, q18), (5, q15), (4, q13), (3, q10), (2, q7), (1, q4), (0, q1)] := by rw [eR27, va_up_ne _ _ (g27.ne ma0)]; exact rra0
  have ria0 : I27 a0 = il [] := by rw [eI27, va_up_ne _ _ (g27.ne ma0)]; exact ria0
  have ka0 := g27.role ma0 ka0
  have ma0 := g27.mem ma0
  have rrq13 : R27 q13 = rl [] := by rw [eR27, va_up_ne _ _ (g27.ne mq13)]; exact rrq13
  have riq13 : I27 q13 = il [] := by rw [eI27, va_up_ne _ _ (g27.ne mq13)]; exact riq13
  have kq13 := g27.role mq13 kq13
  have mq13 := g27.mem mq13
  have rrq15 : R27 q15 = rl [(1, q13), (0, q10), (6, z16_q7), (3, z16_q3), (2, z16_q1)] := by rw [eR27, va_up_ne _ _ (g27.ne mq15)]; exact rrq15
  have riq15 : I27 q15 = il [(5, 0), (4, 0)] := by rw [eI27, va_up_ne _ _ (g27.ne mq15)]; exact riq15
  have kq15 := g27.role mq15 kq15
  have mq15 := g27.mem mq15
  have mq27 := g27.new
  have kq27 := g27.at
  have al := al.new g27 eI27
  have z0 := z0.new g27 eI27 eJ27
  have ow0 := ow0.new g27 eR27
  have nl := nl.push g27
  have rrq27 : R27 q27 = rl [] := by rw [eR27, va_up_self]; rfl
  have riq27 : I27 q27 = il [] := by rw [eI27, va_up_self]; rfl
  have kk := kk.new g27 eI27 eR27 zz_23 zr_23 (Or.inl rfl) (by decide)
  have old := old.new g27 eI27 eJ27 eR27
  have oldB := oldB.new g27 eI27 eJ27 eR27
  refine lv_dup hx hb dX10_init_153 rfl ?_
  refine afA (va_runI (As := []) (rest := [.ref q27, .int 0, .ref q13]) ⟨hx, hb, hml, hown, hts⟩ (c_X7_init kk mq27 kq27 riq27 rrq27 z0 ow0) ⟨callB_of 0 hts (wG_code kc_yX7_init) rfl rfl rfl (hts _ kini_X7) (hts _ km_X10_77) ⟨by decide, by decide, by decide +kernel⟩ ⟨by decide, by decide⟩, rfl, hts _ ki_yX7_init⟩ (preS hH) rfl rfl hl.1 rfl (lv_room (Nat.le_of_ble_eq_true rfl)) dX10_init_154 ⟨by decide, by decide⟩) hH (fun L28 C28 I28 J28 R28 H locs hp hH => ?_)
  obtain ⟨kk, od28, kq28, z0, ow0, nw28⟩ := hp
  have ne28 : a0 ≠ q27 := ne_role ka0 kq27 (by decide)
  have rra0 : R28 a0 = rl [(8, q24), (7, q21), (6, q18), (5, q15), (4, q13), (3, q10), (2, q7), (1, q4), (0, q1)] := ((od28 a0 ma0).2 ne28).2.2.2.trans rra0
  have ria0 : I28 a0 = il [] := ((od28 a0 ma0).2 ne28).2.1.trans ria0
  have ka0 : C28 a0 = 26 := ((od28 a0 ma0).2 ne28).1.trans ka0
  have ma0 := (od28 a0 ma0).1
  have ne28 : q13 ≠ q27 := ne_role kq13 kq27 (by decide)
  have rrq13 : R28 q13 = rl [] := ((od28 q13 mq13).2 ne28).2.2.2.trans rrq13
  have riq13 : I28 q13 = il [] := ((od28 q13 mq13).2 ne28).2.1.trans riq13
  have kq13 : C28 q13 = 60 := ((od28 q13 mq13).2 ne28).1.trans kq13
  have mq13 := (od28 q13 mq13).1
  have ne28 : q15 ≠ q27 := ne_role kq15 kq27 (by decide)
  have rrq15 : R28 q15 = rl [(1, q13), (0, q10), (6, z16_q7), (3, z16_q3), (2, z16_q1)] := ((od28 q15 mq15).2 ne28).2.2.2.trans rrq15
  have riq15 : I28 q15 = il [(5, 0), (4, 0)] := ((od28 q15 mq15).2 ne28).2.1.trans riq15
  have kq15 : C28 q15 = 25 := ((od28 q15 mq15).2 ne28).1.trans kq15
  have mq15 := (od28 q15 mq15).1
  have al := al.old od28 kq27 rfl
  have kq27 : C28 q27 = 7 := kq28
  have mq27 := (od28 q27 mq27).1
  have old := old.ctor od28 nq27
  have oldB := oldB.ctor od28 n2q27
  have nl := nl.old od28
  have al := al.con0 mq27 kq27 rfl
  have kk : KK L28 C28 I28 R28 [0, 1, 2, 3, 4, 5, 6, 7, 8, 16, 17, 18, 19, 20, 21, 22, 23, 24, 25, 26, 32, 33, 34, 35, 36, 37, 38, 39, 40, 41, 42, 43, 44, 45, 46, 47, 48, 49, 50, 51, 52, 53, 54, 55, 56, 58, 59, 60] := kk.wS rfl
  have mq27 : q27 ∈ L28 := (al.at (i := 0) rfl).1
  have kq27 : C28 q27 = 7 := (al.at (i := 0) rfl).2
  refine st_60 hx hb hH mq13 kq13 (Rg_in (Rg_c (x := 0) (a := 0) (b := 0) (by decide)) (by decide)) mq27 kq27 rfl dX10_init_157 (fun R29 H locs eR29 hH => ?_)
  have tb := tb.old okn mtbq ktbq (fun c0 _ hc => fun e => by rw [e] at hc; (try dsimp only at hc); rw [katb] at hc; omega) oldB
  have mtb9 := (oldB _ mtbq).1
  have ktbq := ((oldB _ mtbq).2 (ne_role ktbq katb (by decide))).1.trans ktbq
  have mtbq := mtb9
  have wq : ∀ j, j < 100 → I28 wwq j = -1 := fun j hj => (congrFun ((oldB _ mwq).2 (ne_role kwq katb (by decide))).2.1 j).trans (wq j hj)
  have mw9 := (oldB _ mwq).1
  have kwq := ((oldB _ mwq).2 (ne_role kwq katb (by decide))).1.trans kwq
  have mwq := mw9
  have vaq : R28 kcq 8 = some aq8 := (congrFun ((oldB _ mkq).2 (ne_role kkq katb (by decide))).2.2.2 8).trans vaq
  have vbq : R28 kcq 9 = some bq9 := (congrFun ((oldB _ mkq).2 (ne_role kkq katb (by decide))).2.2.2 9).trans vbq
  have m9 := (oldB _ mkq).1
  have kkq := ((oldB _ mkq).2 (ne_role kkq katb (by decide))).1.trans kkq
  have mkq := m9
  have m9 := (oldB _ maq).1
  have kaq := ((oldB _ maq).2 (ne_role kaq katb (by decide))).1.trans kaq
  have maq := m9
  have m9 := (oldB _ mbq).1
  have kbq := ((oldB _ mbq).2 (ne_role kbq katb (by decide))).1.trans kbq
  have mbq := m9
  have okn := kk.2.1
  have katb := kq13
  have oldB : Old L28 C28 (I28, J28, R28) q13 L28 C28 I28 J28 R28 := Old.rf
  have rra0 : R29 a0 = rl [(8, q24), (7, q21), (6, q18), (5, q15), (4, q13), (3, q10), (2, q7), (1, q4), (0, q1)] := by rw [eR29, u2_ne (ne_role ka0 kq13 (by decide))]; exact rra0
  have rrq15 : R29 q15 = rl [(1, q13), (0, q10), (6, z16_q7), (3, z16_q3), (2, z16_q1)] := by rw [eR29, u2_ne (ne_role kq15 kq13 (by decide))]; exact rrq15
  have rrq13 : R29 q13 = rl [(0, q27)] := by rw [eR29]; exact rl_put rrq13
  have kk : KK L28 C28 I28 R29 [0, 1, 2, 3, 4, 5, 6, 7, 8, 16, 17, 18, 19, 20, 21, 22, 23, 24, 25, 26, 32, 33, 34, 35, 36, 37, 38, 39, 40, 41, 42, 43, 44, 45, 46, 47, 48, 49, 50, 51, 52, 53, 54, 55, 56, 58, 59, 60] := by rw [eR29]; exact kk.stR kq13 zr_60
  have old : Old L0 C0 (I0, J0, R0) a0 L28 C28 I28 J28 R29 := by rw [eR29]; exact old.stR (Or.inr nq13)
  have oldB : Old L28 C28 (I28, J28, R28) q13 L28 C28 I28 J28 R29 := by rw [eR29]; exact oldB.stR (Or.inl rfl)
  have ow0 := ow0.stR kq13 rfl eR29
  refine lv_iinc (v := 1) (lv' := [(1, .int 1), (0, .ref a0)]) hx hb dX10_init_158 hl (k := 0) rfl (by decide) (by decide) rfl (fun ls hl => ?_)
  refine lv_goto (tgt := 139) hx hb dX10_init_161 (by decide) ?_
  refine lv_iload_n hx hb dX10_init_139 rfl (lv_at hl 0 rfl) ?_
  refine lv_bipush (v := 20) hx hb dX10_init_140 (by decide) ?_
  refine lv_icmp_ge (tgt := 164) hx hb dX10_init_142 (by decide) (fun q => absurd q (by decide)) (fun q => ?_)
  refine lv_aload_n hx hb dX10_init_145 rfl (lv_at hl 1 rfl) ?_
  refine gf_10_4 (b := q13) (by rw [rra0]; rfl) hx hb hts hown hH ma0 ka0 rfl kf_X10_41 dX10_init_146 ?_
  refine lv_iload_n hx hb dX10_init_149 rfl (lv_at hl 0 rfl) ?_
  refine hNew (ci := 7) (N := 2) hx hb hts hown hH inX7 tyX7_ok rfl (by decide) rfl df_7 kcl_X10_39 kinst_X7 kini_X7 (by decide) (by decide) dX10_init_150 (fun q30 L30 C30 I30 J30 R30 H g30 eI30 eJ30 eR30 hH => ?_)
  have nq30 : q30 ∉ L0 := fun h => g30.2.2 (old q30 h).1
  have n2q30 : q30 ∉ L28 := fun h => g30.2.2 (oldB q30 h).1
  have rra0 : R30 a0 = rl [(8, q24), (7, q21), (6, q18), (5, q15), (4, q13), (3, q10), (2, q7), (1, q4), (0, q1)] := by rw [eR30, va_up_ne _ _ (g30.ne ma0)]; exact rra0
  have ria0 : I30 a0 = il [] := by rw [eI30, va_up_ne _ _ (g30.ne ma0)]; exact ria0
  have ka0 := g30.role ma0 ka0
  have ma0 := g30.mem ma0
  have rrq13 : R30 q13 = rl [(0, q27)] := by rw [eR30, va_up_ne _ _ (g30.ne mq13)]; exact rrq13
  have riq13 : I30 q13 = il [] := by rw [eI30, va_up_ne _ _ (g30.ne mq13)]; exact riq13
  have kq13 := g30.role mq13 kq13
  have mq13 := g30.mem mq13
  have rrq15 : R30 q15 = rl [(1, q13), (0, q10), (6, z16_q7), (3, z16_q3), (2, z16_q1)] := by rw [eR30, va_up_ne _ _ (g30.ne mq15)]; exact rrq15
  have riq15 : I30 q15 = il [(5, 0), (4, 0)] := by rw [eI30, va_up_ne _ _ (g30.ne mq15)]; exact riq15
  have kq15 := g30.role mq15 kq15
  have mq15 := g30.mem mq15
  have mq30 := g30.new
  have kq30 := g30.at
  have al := al.new g30 eI30
  have z0 := z0.new g30 eI30 eJ30
  have ow0 := ow0.new g30 eR30
  have nl := nl.push g30
  have rrq30 : R30 q30 = rl [] := by rw [eR30, va_up_self]; rfl
  have riq30 : I30 q30 = il [] := by rw [eI30, va_up_self]; rfl
  have kk := kk.new g30 eI30 eR30 zz_23 zr_23 (Or.inl rfl) (by decide)
  have old := old.new g30 eI30 eJ30 eR30
  have oldB := oldB.new g30 eI30 eJ30 eR30
  refine lv_dup hx hb dX10_init_153 rfl ?_
  refine afA (va_runI (As := []) (rest := [.ref q30, .int 1, .ref q13]) ⟨hx, hb, hml, hown, hts⟩ (c_X7_init kk mq30 kq30 riq30 rrq30 z0 ow0) ⟨callB_of 0 hts (wG_code kc_yX7_init) rfl rfl rfl (hts _ kini_X7) (hts _ km_X10_77) ⟨by decide, by decide, by decide +kernel⟩ ⟨by decide, by decide⟩, rfl, hts _ ki_yX7_init⟩ (preS hH) rfl rfl hl.1 rfl (lv_room (Nat.le_of_ble_eq_true rfl)) dX10_init_154 ⟨by decide, by decide⟩) hH (fun L31 C31 I31 J31 R31 H locs hp hH => ?_)
  obtain ⟨kk, od31, kq31, z0, ow0, nw31⟩ := hp
  have ne31 : a0 ≠ q30 := ne_role ka0 kq30 (by decide)
  have rra0 : R31 a0 = rl [(8, q24), (7, q21), (6, q18), (5, q15), (4, q13), (3, q10), (2, q7), (1, q4), (0, q1)] := ((od31 a0 ma0).2 ne31).2.2.2.trans rra0
  have ria0 : I31 a0 = il [] := ((od31 a0 ma0).2 ne31).2.1.trans ria0
  have ka0 : C31 a0 = 26 := ((od31 a0 ma0).2 ne31).1.trans ka0
  have ma0 := (od31 a0 ma0).1
  have ne31 : q13 ≠ q30 := ne_role kq13 kq30 (by decide)
  have rrq13 : R31 q13 = rl [(0, q27)] := ((od31 q13 mq13).2 ne31).2.2.2.trans rrq13
  have riq13 : I31 q13 = il [] := ((od31 q13 mq13).2 ne31).2.1.trans riq13
  have kq13 : C31 q13 = 60 := ((od31 q13 mq13).2 ne31).1.trans kq13
  have mq13 := (od31 q13 mq13).1
  have ne31 : q15 ≠ q30 := ne_role kq15 kq30 (by decide)
  have rrq15 : R31 q15 = rl [(1, q13), (0, q10), (6, z16_q7), (3, z16_q3), (2, z16_q1)] := ((od31 q15 mq15).2 ne31).2.2.2.trans rrq15
  have riq15 : I31 q15 = il [(5, 0), (4, 0)] := ((od31 q15 mq15).2 ne31).2.1.trans riq15
  have kq15 : C31 q15 = 25 := ((od31 q15 mq15).2 ne31).1.trans kq15
  have mq15 := (od31 q15 mq15).1
  have al := al.old od31 kq30 rfl
  have kq30 : C31 q30 = 7 := kq31
  have mq30 := (od31 q30 mq30).1
  have old := old.ctor od31 nq30
  have oldB := oldB.ctor od31 n2q30
  have nl := nl.old od31
  have al := al.con0 mq30 kq30 rfl
  have kk : KK L31 C31 I31 R31 [0, 1, 2, 3, 4, 5, 6, 7, 8, 16, 17, 18, 19, 20, 21, 22, 23, 24, 25, 26, 32, 33, 34, 35, 36, 37, 38, 39, 40, 41, 42, 43, 44, 45, 46, 47, 48, 49, 50, 51, 52, 53, 54, 55, 56, 58, 59, 60] := kk.wS rfl
  have mq30 : q30 ∈ L31 := (al.at (i := 0) rfl).1
  have kq30 : C31 q30 = 7 := (al.at (i := 0) rfl).2
  refine st_60 hx hb hH mq13 kq13 (Rg_in (Rg_c (x := 1) (a := 1) (b := 1) (by decide)) (by decide)) mq30 kq30 rfl dX10_init_157 (fun R32 H locs eR32 hH => ?_)
  have rra0 : R32 a0 = rl [(8, q24), (7, q21), (6, q18), (5, q15), (4, q13), (3, q10), (2, q7), (1, q4), (0, q1)] := by rw [eR32, u2_ne (ne_role ka0 kq13 (by decide))]; exact rra0
  have rrq15 : R32 q15 = rl [(1, q13), (0, q10), (6, z16_q7), (3, z16_q3), (2, z16_q1)] := by rw [eR32, u2_ne (ne_role kq15 kq13 (by decide))]; exact rrq15
  have rrq13 : R32 q13 = rl [(1, q30), (0, q27)] := by rw [eR32]; exact rl_put rrq13
  have kk : KK L31 C31 I31 R32 [0, 1, 2, 3, 4, 5, 6, 7, 8, 16, 17, 18, 19, 20, 21, 22, 23, 24, 25, 26, 32, 33, 34, 35, 36, 37, 38, 39, 40, 41, 42, 43, 44, 45, 46, 47, 48, 49, 50, 51, 52, 53, 54, 55, 56, 58, 59, 60] := by rw [eR32]; exact kk.stR kq13 zr_60
  have old : Old L0 C0 (I0, J0, R0) a0 L31 C31 I31 J31 R32 := by rw [eR32]; exact old.stR (Or.inr nq13)
  have oldB : Old L28 C28 (I28, J28, R28) q13 L31 C31 I31 J31 R32 := by rw [eR32]; exact oldB.stR (Or.inl rfl)
  have ow0 := ow0.stR kq13 rfl eR32
  refine lv_iinc (v := 2) (lv' := [(1, .int 2), (0, .ref a0)]) hx hb dX10_init_158 hl (k := 0) rfl (by decide) (by decide) rfl (fun ls hl => ?_)
  refine lv_goto (tgt := 139) hx hb dX10_init_161 (by decide) ?_
  refine lv_iload_n hx hb dX10_init_139 rfl (lv_at hl 0 rfl) ?_
  refine lv_bipush (v := 20) hx hb dX10_init_140 (by decide) ?_
  refine lv_icmp_ge (tgt := 164) hx hb dX10_init_142 (by decide) (fun q => absurd q (by decide)) (fun q => ?_)
  refine lv_aload_n hx hb dX10_init_145 rfl (lv_at hl 1 rfl) ?_
  refine gf_10_4 (b := q13) (by rw [rra0]; rfl) hx hb hts hown hH ma0 ka0 rfl kf_X10_41 dX10_init_146 ?_
  refine lv_iload_n hx hb dX10_init_149 rfl (lv_at hl 0 rfl) ?_
  refine hNew (ci := 7) (N := 2) hx hb hts hown hH inX7 tyX7_ok rfl (by decide) rfl df_7 kcl_X10_39 kinst_X7 kini_X7 (by decide) (by decide) dX10_init_150 (fun q33 L33 C33 I33 J33 R33 H g33 eI33 eJ33 eR33 hH => ?_)
  have nq33 : q33 ∉ L0 := fun h => g33.2.2 (old q33 h).1
  have n2q33 : q33 ∉ L28 := fun h => g33.2.2 (oldB q33 h).1
  have rra0 : R33 a0 = rl [(8, q24), (7, q21), (6, q18), (5, q15), (4, q13), (3, q10), (2, q7), (1, q4), (0, q1)] := by rw [eR33, va_up_ne _ _ (g33.ne ma0)]; exact rra0
  have ria0 : I33 a0 = il [] := by rw [eI33, va_up_ne _ _ (g33.ne ma0)]; exact ria0
  have ka0 := g33.role ma0 ka0
  have ma0 := g33.mem ma0
  have rrq13 : R33 q13 = rl [(1, q30), (0, q27)] := by rw [eR33, va_up_ne _ _ (g33.ne mq13)]; exact rrq13
  have riq13 : I33 q13 = il [] := by rw [eI33, va_up_ne _ _ (g33.ne mq13)]; exact riq13
  have kq13 := g33.role mq13 kq13
  have mq13 := g33.mem mq13
  have rrq15 : R33 q15 = rl [(1, q13), (0, q10), (6, z16_q7), (3, z16_q3), (2, z16_q1)] := by rw [eR33, va_up_ne _ _ (g33.ne mq15)]; exact rrq15
  have riq15 : I33 q15 = il [(5, 0), (4, 0)] := by rw [eI33, va_up_ne _ _ (g33.ne mq15)]; exact riq15
  have kq15 := g33.role mq15 kq15
  have mq15 := g33.mem mq15
  have mq33 := g33.new
  have kq33 := g33.at
  have al := al.new g33 eI33
  have z0 := z0.new g33 eI33 eJ33
  have ow0 := ow0.new g33 eR33
  have nl := nl.push g33
  have rrq33 : R33 q33 = rl [] := by rw [eR33, va_up_self]; rfl
  have riq33 : I33 q33 = il [] := by rw [eI33, va_up_self]; rfl
  have kk := kk.new g33 eI33 eR33 zz_23 zr_23 (Or.inl rfl) (by decide)
  have old := old.new g33 eI33 eJ33 eR33
  have oldB := oldB.new g33 eI33 eJ33 eR33
  refine lv_dup hx hb dX10_init_153 rfl ?_
  refine afA (va_runI (As := []) (rest := [.ref q33, .int 2, .ref q13]) ⟨hx, hb, hml, hown, hts⟩ (c_X7_init kk mq33 kq33 riq33 rrq33 z0 ow0) ⟨callB_of 0 hts (wG_code kc_yX7_init) rfl rfl rfl (hts _ kini_X7) (hts _ km_X10_77) ⟨by decide, by decide, by decide +kernel⟩ ⟨by decide, by decide⟩, rfl, hts _ ki_yX7_init⟩ (preS hH) rfl rfl hl.1 rfl (lv_room (Nat.le_of_ble_eq_true rfl)) dX10_init_154 ⟨by decide, by decide⟩) hH (fun L34 C34 I34 J34 R34 H locs hp hH => ?_)
  obtain ⟨kk, od34, kq34, z0, ow0, nw34⟩ := hp
  have ne34 : a0 ≠ q33 := ne_role ka0 kq33 (by decide)
  have rra0 : R34 a0 = rl [(8, q24), (7, q21), (6, q18), (5, q15), (4, q13), (3, q10), (2, q7), (1, q4), (0, q1)] := ((od34 a0 ma0).2 ne34).2.2.2.trans rra0
  have ria0 : I34 a0 = il [] := ((od34 a0 ma0).2 ne34).2.1.trans ria0
  have ka0 : C34 a0 = 26 := ((od34 a0 ma0).2 ne34).1.trans ka0
  have ma0 := (od34 a0 ma0).1
  have ne34 : q13 ≠ q33 := ne_role kq13 kq33 (by decide)
  have rrq13 : R34 q13 = rl [(1, q30), (0, q27)] := ((od34 q13 mq13).2 ne34).2.2.2.trans rrq13
  have riq13 : I34 q13 = il [] := ((od34 q13 mq13).2 ne34).2.1.trans riq13
  have kq13 : C34 q13 = 60 := ((od34 q13 mq13).2 ne34).1.trans kq13
  have mq13 := (od34 q13 mq13).1
  have ne34 : q15 ≠ q33 := ne_role kq15 kq33 (by decide)
  have rrq15 : R34 q15 = rl [(1, q13), (0, q10), (6, z16_q7), (3, z16_q3), (2, z16_q1)] := ((od34 q15 mq15).2 ne34).2.2.2.trans rrq15
  have riq15 : I34 q15 = il [(5, 0), (4, 0)] := ((od34 q15 mq15).2 ne34).2.1.trans riq15
  have kq15 : C34 q15 = 25 := ((od34 q15 mq15).2 ne34).1.trans kq15
  have mq15 := (od34 q15 mq15).1
  have al := al.old od34 kq33 rfl
  have kq33 : C34 q33 = 7 := kq34
  have mq33 := (od34 q33 mq33).1
  have old := old.ctor od34 nq33
  have oldB := oldB.ctor od34 n2q33
  have nl := nl.old od34
  have al := al.con0 mq33 kq33 rfl
  have kk : KK L34 C34 I34 R34 [0, 1, 2, 3, 4, 5, 6, 7, 8, 16, 17, 18, 19, 20, 21, 22, 23, 24, 25, 26, 32, 33, 34, 35, 36, 37, 38, 39, 40, 41, 42, 43, 44, 45, 46, 47, 48, 49, 50, 51, 52, 53, 54, 55, 56, 58, 59, 60] := kk.wS rfl
  have mq33 : q33 ∈ L34 := (al.at (i := 0) rfl).1
  have kq33 : C34 q33 = 7 := (al.at (i := 0) rfl).2
  refine st_60 hx hb hH mq13 kq13 (Rg_in (Rg_c (x := 2) (a := 2) (b := 2) (by decide)) (by decide)) mq33 kq33 rfl dX10_init_157 (fun R35 H locs eR35 hH => ?_)
  have rra0 : R35 a0 = rl [(8, q24), (7, q21), (6, q18), (5, q15), (4, q13), (3, q10), (2, q7), (1, q4), (0, q1)] := by rw [eR35, u2_ne (ne_role ka0 kq13 (by decide))]; exact rra0
  have rrq15 : R35 q15 = rl [(1, q13), (0, q10), (6, z16_q7), (3, z16_q3), (2, z16_q1)] := by rw [eR35, u2_ne (ne_role kq15 kq13 (by decide))]; exact rrq15
  have rrq13 : R35 q13 = rl [(2, q33), (1, q30), (0, q27)] := by rw [eR35]; exact rl_put rrq13
  have kk : KK L34 C34 I34 R35 [0, 1, 2, 3, 4, 5, 6, 7, 8, 16, 17, 18, 19, 20, 21, 22, 23, 24, 25, 26, 32, 33, 34, 35, 36, 37, 38, 39, 40, 41, 42, 43, 44, 45, 46, 47, 48, 49, 50, 51, 52, 53, 54, 55, 56, 58, 59, 60] := by rw [eR35]; exact kk.stR kq13 zr_60
  have old : Old L0 C0 (I0, J0, R0) a0 L34 C34 I34 J34 R35 := by rw [eR35]; exact old.stR (Or.inr nq13)
  have oldB : Old L28 C28 (I28, J28, R28) q13 L34 C34 I34 J34 R35 := by rw [eR35]; exact oldB.stR (Or.inl rfl)
  have ow0 := ow0.stR kq13 rfl eR35
  refine lv_iinc (v := 3) (lv' := [(1, .int 3), (0, .ref a0)]) hx hb dX10_init_158 hl (k := 0) rfl (by decide) (by decide) rfl (fun ls hl => ?_)
  refine lv_goto (tgt := 139) hx hb dX10_init_161 (by decide) ?_
  refine lv_iload_n hx hb dX10_init_139 rfl (lv_at hl 0 rfl) ?_
  refine lv_bipush (v := 20) hx hb dX10_init_140 (by decide) ?_
  refine lv_icmp_ge (tgt := 164) hx hb dX10_init_142 (by decide) (fun q => absurd q (by decide)) (fun q => ?_)
  refine lv_aload_n hx hb dX10_init_145 rfl (lv_at hl 1 rfl) ?_
  refine gf_10_4 (b := q13) (by rw [rra0]; rfl) hx hb hts hown hH ma0 ka0 rfl kf_X10_41 dX10_init_146 ?_
  refine lv_iload_n hx hb dX10_init_149 rfl (lv_at hl 0 rfl) ?_
  refine hNew (ci := 7) (N := 2) hx hb hts hown hH inX7 tyX7_ok rfl (by decide) rfl df_7 kcl_X10_39 kinst_X7 kini_X7 (by decide) (by decide) dX10_init_150 (fun q36 L36 C36 I36 J36 R36 H g36 eI36 eJ36 eR36 hH => ?_)
  have nq36 : q36 ∉ L0 := fun h => g36.2.2 (old q36 h).1
  have n2q36 : q36 ∉ L28 := fun h => g36.2.2 (oldB q36 h).1
  have rra0 : R36 a0 = rl [(8, q24), (7, q21), (6, q18), (5, q15), (4, q13), (3, q10), (2, q7), (1, q4), (0, q1)] := by rw [eR36, va_up_ne _ _ (g36.ne ma0)]; exact rra0
  have ria0 : I36 a0 = il [] := by rw [eI36, va_up_ne _ _ (g36.ne ma0)]; exact ria0
  have ka0 := g36.role ma0 ka0
  have ma0 := g36.mem ma0
  have rrq13 : R36 q13 = rl [(2, q33), (1, q30), (0, q27)] := by rw [eR36, va_up_ne _ _ (g36.ne mq13)]; exact rrq13
  have riq13 : I36 q13 = il [] := by rw [eI36, va_up_ne _ _ (g36.ne mq13)]; exact riq13
  have kq13 := g36.role mq13 kq13
  have mq13 := g36.mem mq13
  have rrq15 : R36 q15 = rl [(1, q13), (0, q10), (6, z16_q7), (3, z16_q3), (2, z16_q1)] := by rw [eR36, va_up_ne _ _ (g36.ne mq15)]; exact rrq15
  have riq15 : I36 q15 = il [(5, 0), (4, 0)] := by rw [eI36, va_up_ne _ _ (g36.ne mq15)]; exact riq15
  have kq15 := g36.role mq15 kq15
  have mq15 := g36.mem mq15
  have mq36 := g36.new
  have kq36 := g36.at
  have al := al.new g36 eI36
  have z0 := z0.new g36 eI36 eJ36
  have ow0 := ow0.new g36 eR36
  have nl := nl.push g36
  have rrq36 : R36 q36 = rl [] := by rw [eR36, va_up_self]; rfl
  have riq36 : I36 q36 = il [] := by rw [eI36, va_up_self]; rfl
  have kk := kk.new g36 eI36 eR36 zz_23 zr_23 (Or.inl rfl) (by decide)
  have old := old.new g36 eI36 eJ36 eR36
  have oldB := oldB.new g36 eI36 eJ36 eR36
  refine lv_dup hx hb dX10_init_153 rfl ?_
  refine afA (va_runI (As := []) (rest := [.ref q36, .int 3, .ref q13]) ⟨hx, hb, hml, hown, hts⟩ (c_X7_init kk mq36 kq36 riq36 rrq36 z0 ow0) ⟨callB_of 0 hts (wG_code kc_yX7_init) rfl rfl rfl (hts _ kini_X7) (hts _ km_X10_77) ⟨by decide, by decide, by decide +kernel⟩ ⟨by decide, by decide⟩, rfl, hts _ ki_yX7_init⟩ (preS hH) rfl rfl hl.1 rfl (lv_room (Nat.le_of_ble_eq_true rfl)) dX10_init_154 ⟨by decide, by decide⟩) hH (fun L37 C37 I37 J37 R37 H locs hp hH => ?_)
  obtain ⟨kk, od37, kq37, z0, ow0, nw37⟩ := hp
  have ne37 : a0 ≠ q36 := ne_role ka0 kq36 (by decide)
  have rra0 : R37 a0 = rl [(8, q24), (7, q21), (6, q18), (5, q15), (4, q13), (3, q10), (2, q7), (1, q4), (0, q1)] := ((od37 a0 ma0).2 ne37).2.2.2.trans rra0
  have ria0 : I37 a0 = il [] := ((od37 a0 ma0).2 ne37).2.1.trans ria0
  have ka0 : C37 a0 = 26 := ((od37 a0 ma0).2 ne37).1.trans ka0
  have ma0 := (od37 a0 ma0).1
  have ne37 : q13 ≠ q36 := ne_role kq13 kq36 (by decide)
  have rrq13 : R37 q13 = rl [(2, q33), (1, q30), (0, q27)] := ((od37 q13 mq13).2 ne37).2.2.2.trans rrq13
  have riq13 : I37 q13 = il [] := ((od37 q13 mq13).2 ne37).2.1.trans riq13
  have kq13 : C37 q13 = 60 := ((od37 q13 mq13).2 ne37).1.trans kq13
  have mq13 := (od37 q13 mq13).1
  have ne37 : q15 ≠ q36 := ne_role kq15 kq36 (by decide)
  have rrq15 : R37 q15 = rl [(1, q13), (0, q10), (6, z16_q7), (3, z16_q3), (2, z16_q1)] := ((od37 q15 mq15).2 ne37).2.2.2.trans rrq15
  have riq15 : I37 q15 = il [(5, 0), (4, 0)] := ((od37 q15 mq15).2 ne37).2.1.trans riq15
  have kq15 : C37 q15 = 25 := ((od37 q15 mq15).2 ne37).1.trans kq15
  have mq15 := (od37 q15 mq15).1
  have al := al.old od37 kq36 rfl
  have kq36 : C37 q36 = 7 := kq37
  have mq36 := (od37 q36 mq36).1
  have old := old.ctor od37 nq36
  have oldB := oldB.ctor od37 n2q36
  have nl := nl.old od37
  have al := al.con0 mq36 kq36 rfl
  have kk : KK L37 C37 I37 R37 [0, 1, 2, 3, 4, 5, 6, 7, 8, 16, 17, 18, 19, 20, 21, 22, 23, 24, 25, 26, 32, 33, 34, 35, 36, 37, 38, 39, 40, 41, 42, 43, 44, 45, 46, 47, 48, 49, 50, 51, 52, 53, 54, 55, 56, 58, 59, 60] := kk.wS rfl
  have mq36 : q36 ∈ L37 := (al.at (i := 0) rfl).1
  have kq36 : C37 q36 = 7 := (al.at (i := 0) rfl).2
  refine st_60 hx hb hH mq13 kq13 (Rg_in (Rg_c (x := 3) (a := 3) (b := 3) (by decide)) (by decide)) mq36 kq36 rfl dX10_init_157 (fun R38 H locs eR38 hH => ?_)
  have rra0 : R38 a0 = rl [(8, q24), (7, q21), (6, q18), (5, q15), (4, q13), (3, q10), (2, q7), (1, q4), (0, q1)] := by rw [eR38, u2_ne (ne_role ka0 kq13 (by decide))]; exact rra0
  have rrq15 : R38 q15 = rl [(1, q13), (0, q10), (6, z16_q7), (3, z16_q3), (2, z16_q1)] := by rw [eR38, u2_ne (ne_role kq15 kq13 (by decide))]; exact rrq15
  have rrq13 : R38 q13 = rl [(3, q36), (2, q33), (1, q30), (0, q27)] := by rw [eR38]; exact rl_put rrq13
  have kk : KK L37 C37 I37 R38 [0, 1, 2, 3, 4, 5, 6, 7, 8, 16, 17, 18, 19, 20, 21, 22, 23, 24, 25, 26, 32, 33, 34, 35, 36, 37, 38, 39, 40, 41, 42, 43, 44, 45, 46, 47, 48, 49, 50, 51, 52, 53, 54, 55, 56, 58, 59, 60] := by rw [eR38]; exact kk.stR kq13 zr_60
  have old : Old L0 C0 (I0, J0, R0) a0 L37 C37 I37 J37 R38 := by rw [eR38]; exact old.stR (Or.inr nq13)
  have oldB : Old L28 C28 (I28, J28, R28) q13 L37 C37 I37 J37 R38 := by rw [eR38]; exact oldB.stR (Or.inl rfl)
  have ow0 := ow0.stR kq13 rfl eR38
  refine lv_iinc (v := 4) (lv' := [(1, .int 4), (0, .ref a0)]) hx hb dX10_init_158 hl (k := 0) rfl (by decide) (by decide) rfl (fun ls hl => ?_)
  refine lv_goto (tgt := 139) hx hb dX10_init_161 (by decide) ?_
  refine lv_iload_n hx hb dX10_init_139 rfl (lv_at hl 0 rfl) ?_
  refine lv_bipush (v := 20) hx hb dX10_init_140 (by decide) ?_
  refine lv_icmp_ge (tgt := 164) hx hb dX10_init_142 (by decide) (fun q => absurd q (by decide)) (fun q => ?_)
  refine lv_aload_n hx hb dX10_init_145 rfl (lv_at hl 1 rfl) ?_
  refine gf_10_4 (b := q13) (by rw [rra0]; rfl) hx hb hts hown hH ma0 ka0 rfl kf_X10_41 dX10_init_146 ?_
  refine lv_iload_n hx hb dX10_init_149 rfl (lv_at hl 0 rfl) ?_
  refine hNew (ci := 7) (N := 2) hx hb hts hown hH inX7 tyX7_ok rfl (by decide) rfl df_7 kcl_X10_39 kinst_X7 kini_X7 (by decide) (by decide) dX10_init_150 (fun q39 L39 C39 I39 J39 R39 H g39 eI39 eJ39 eR39 hH => ?_)
  have nq39 : q39 ∉ L0 := fun h => g39.2.2 (old q39 h).1
  have n2q39 : q39 ∉ L28 := fun h => g39.2.2 (oldB q39 h).1
  have rra0 : R39 a0 = rl [(8, q24), (7, q21), (6, q18), (5, q15), (4, q13), (3, q10), (2, q7), (1, q4), (0, q1)] := by rw [eR39, va_up_ne _ _ (g39.ne ma0)]; exact rra0
  have ria0 : I39 a0 = il [] := by rw [eI39, va_up_ne _ _ (g39.ne ma0)]; exact ria0
  have ka0 := g39.role ma0 ka0
  have ma0 := g39.mem ma0
  have rrq13 : R39 q13 = rl [(3, q36), (2, q33), (1, q30), (0, q27)] := by rw [eR39, va_up_ne _ _ (g39.ne mq13)]; exact rrq13
  have riq13 : I39 q13 = il [] := by rw [eI39, va_up_ne _ _ (g39.ne mq13)]; exact riq13
  have kq13 := g39.role mq13 kq13
  have mq13 := g39.mem mq13
  have rrq15 : R39 q15 = rl [(1, q13), (0, q10), (6, z16_q7), (3, z16_q3), (2, z16_q1)] := by rw [eR39, va_up_ne _ _ (g39.ne mq15)]; exact rrq15
  have riq15 : I39 q15 = il [(5, 0), (4, 0)] := by rw [eI39, va_up_ne _ _ (g39.ne mq15)]; exact riq15
  have kq15 := g39.role mq15 kq15
  have mq15 := g39.mem mq15
  have mq39 := g39.new
  have kq39 := g39.at
  have al := al.new g39 eI39
  have z0 := z0.new g39 eI39 eJ39
  have ow0 := ow0.new g39 eR39
  have nl := nl.push g39
  have rrq39 : R39 q39 = rl [] := by rw [eR39, va_up_self]; rfl
  have riq39 : I39 q39 = il [] := by rw [eI39, va_up_self]; rfl
  have kk := kk.new g39 eI39 eR39 zz_23 zr_23 (Or.inl rfl) (by decide)
  have old := old.new g39 eI39 eJ39 eR39
  have oldB := oldB.new g39 eI39 eJ39 eR39
  refine lv_dup hx hb dX10_init_153 rfl ?_
  refine afA (va_runI (As := []) (rest := [.ref q39, .int 4, .ref q13]) ⟨hx, hb, hml, hown, hts⟩ (c_X7_init kk mq39 kq39 riq39 rrq39 z0 ow0) ⟨callB_of 0 hts (wG_code kc_yX7_init) rfl rfl rfl (hts _ kini_X7) (hts _ km_X10_77) ⟨by decide, by decide, by decide +kernel⟩ ⟨by decide, by decide⟩, rfl, hts _ ki_yX7_init⟩ (preS hH) rfl rfl hl.1 rfl (lv_room (Nat.le_of_ble_eq_true rfl)) dX10_init_154 ⟨by decide, by decide⟩) hH (fun L40 C40 I40 J40 R40 H locs hp hH => ?_)
  obtain ⟨kk, od40, kq40, z0, ow0, nw40⟩ := hp
  have ne40 : a0 ≠ q39 := ne_role ka0 kq39 (by decide)
  have rra0 : R40 a0 = rl [(8, q24), (7, q21), (6, q18), (5, q15), (4, q13), (3, q10), (2, q7), (1, q4), (0, q1)] := ((od40 a0 ma0).2 ne40).2.2.2.trans rra0
  have ria0 : I40 a0 = il [] := ((od40 a0 ma0).2 ne40).2.1.trans ria0
  have ka0 : C40 a0 = 26 := ((od40 a0 ma0).2 ne40).1.trans ka0
  have ma0 := (od40 a0 ma0).1
  have ne40 : q13 ≠ q39 := ne_role kq13 kq39 (by decide)
  have rrq13 : R40 q13 = rl [(3, q36), (2, q33), (1, q30), (0, q27)] := ((od40 q13 mq13).2 ne40).2.2.2.trans rrq13
  have riq13 : I40 q13 = il [] := ((od40 q13 mq13).2 ne40).2.1.trans riq13
  have kq13 : C40 q13 = 60 := ((od40 q13 mq13).2 ne40).1.trans kq13
  have mq13 := (od40 q13 mq13).1
  have ne40 : q15 ≠ q39 := ne_role kq15 kq39 (by decide)
  have rrq15 : R40 q15 = rl [(1, q13), (0, q10), (6, z16_q7), (3, z16_q3), (2, z16_q1)] := ((od40 q15 mq15).2 ne40).2.2.2.trans rrq15
  have riq15 : I40 q15 = il [(5, 0), (4, 0)] := ((od40 q15 mq15).2 ne40).2.1.trans riq15
  have kq15 : C40 q15 = 25 := ((od40 q15 mq15).2 ne40).1.trans kq15
  have mq15 := (od40 q15 mq15).1
  have al := al.old od40 kq39 rfl
  have kq39 : C40 q39 = 7 := kq40
  have mq39 := (od40 q39 mq39).1
  have old := old.ctor od40 nq39
  have oldB := oldB.ctor od40 n2q39
  have nl := nl.old od40
  have al := al.con0 mq39 kq39 rfl
  have kk : KK L40 C40 I40 R40 [0, 1, 2, 3, 4, 5, 6, 7, 8, 16, 17, 18, 19, 20, 21, 22, 23, 24, 25, 26, 32, 33, 34, 35, 36, 37, 38, 39, 40, 41, 42, 43, 44, 45, 46, 47, 48, 49, 50, 51, 52, 53, 54, 55, 56, 58, 59, 60] := kk.wS rfl
  have mq39 : q39 ∈ L40 := (al.at (i := 0) rfl).1
  have kq39 : C40 q39 = 7 := (al.at (i := 0) rfl).2
  refine st_60 hx hb hH mq13 kq13 (Rg_in (Rg_c (x := 4) (a := 4) (b := 4) (by decide)) (by decide)) mq39 kq39 rfl dX10_init_157 (fun R41 H locs eR41 hH => ?_)
  have rra0 : R41 a0 = rl [(8, q24), (7, q21), (6, q18), (5, q15), (4, q13), (3, q10), (2, q7), (1, q4), (0, q1)] := by rw [eR41, u2_ne (ne_role ka0 kq13 (by decide))]; exact rra0
  have rrq15 : R41 q15 = rl [(1, q13), (0, q10), (6, z16_q7), (3, z16_q3), (2, z16_q1)] := by rw [eR41, u2_ne (ne_role kq15 kq13 (by decide))]; exact rrq15
  have rrq13 : R41 q13 = rl [(4, q39), (3, q36), (2, q33), (1, q30), (0, q27)] := by rw [eR41]; exact rl_put rrq13
  have kk : KK L40 C40 I40 R41 [0, 1, 2, 3, 4, 5, 6, 7, 8, 16, 17, 18, 19, 20, 21, 22, 23, 24, 25, 26, 32, 33, 34, 35, 36, 37, 38, 39, 40, 41, 42, 43, 44, 45, 46, 47, 48, 49, 50, 51, 52, 53, 54, 55, 56, 58, 59, 60] := by rw [eR41]; exact kk.stR kq13 zr_60
  have old : Old L0 C0 (I0, J0, R0) a0 L40 C40 I40 J40 R41 := by rw [eR41]; exact old.stR (Or.inr nq13)
  have oldB : Old L28 C28 (I28, J28, R28) q13 L40 C40 I40 J40 R41 := by rw [eR41]; exact oldB.stR (Or.inl rfl)
  have ow0 := ow0.stR kq13 rfl eR41
  refine lv_iinc (v := 5) (lv' := [(1, .int 5), (0, .ref a0)]) hx hb dX10_init_158 hl (k := 0) rfl (by decide) (by decide) rfl (fun ls hl => ?_)
  refine lv_goto (tgt := 139) hx hb dX10_init_161 (by decide) ?_
  refine lv_iload_n hx hb dX10_init_139 rfl (lv_at hl 0 rfl) ?_
  refine lv_bipush (v := 20) hx hb dX10_init_140 (by decide) ?_
  refine lv_icmp_ge (tgt := 164) hx hb dX10_init_142 (by decide) (fun q => absurd q (by decide)) (fun q => ?_)
  refine lv_aload_n hx hb dX10_init_145 rfl (lv_at hl 1 rfl) ?_
  refine gf_10_4 (b := q13) (by rw [rra0]; rfl) hx hb hts hown hH ma0 ka0 rfl kf_X10_41 dX10_init_146 ?_
  refine lv_iload_n hx hb dX10_init_149 rfl (lv_at hl 0 rfl) ?_
  refine hNew (ci := 7) (N := 2) hx hb hts hown hH inX7 tyX7_ok rfl (by decide) rfl df_7 kcl_X10_39 kinst_X7 kini_X7 (by decide) (by decide) dX10_init_150 (fun q42 L42 C42 I42 J42 R42 H g42 eI42 eJ42 eR42 hH => ?_)
  have nq42 : q42 ∉ L0 := fun h => g42.2.2 (old q42 h).1
  have n2q42 : q42 ∉ L28 := fun h => g42.2.2 (oldB q42 h).1
  have rra0 : R42 a0 = rl [(8, q24), (7, q21), (6, q18), (5, q15), (4, q13), (3, q10), (2, q7), (1, q4), (0, q1)] := by rw [eR42, va_up_ne _ _ (g42.ne ma0)]; exact rra0
  have ria0 : I42 a0 = il [] := by rw [eI42, va_up_ne _ _ (g42.ne ma0)]; exact ria0
  have ka0 := g42.role ma0 ka0
  have ma0 := g42.mem ma0
  have rrq13 : R42 q13 = rl [(4, q39), (3, q36), (2, q33), (1, q30), (0, q27)] := by rw [eR42, va_up_ne _ _ (g42.ne mq13)]; exact rrq13
  have riq13 : I42 q13 = il [] := by rw [eI42, va_up_ne _ _ (g42.ne mq13)]; exact riq13
  have kq13 := g42.role mq13 kq13
  have mq13 := g42.mem mq13
  have rrq15 : R42 q15 = rl [(1, q13), (0, q10), (6, z16_q7), (3, z16_q3), (2, z16_q1)] := by rw [eR42, va_up_ne _ _ (g42.ne mq15)]; exact rrq15
  have riq15 : I42 q15 = il [(5, 0), (4, 0)] := by rw [eI42, va_up_ne _ _ (g42.ne mq15)]; exact riq15
  have kq15 := g42.role mq15 kq15
  have mq15 := g42.mem mq15
  have mq42 := g42.new
  have kq42 := g42.at
  have al := al.new g42 eI42
  have z0 := z0.new g42 eI42 eJ42
  have ow0 := ow0.new g42 eR42
  have nl := nl.push g42
  have rrq42 : R42 q42 = rl [] := by rw [eR42, va_up_self]; rfl
  have riq42 : I42 q42 = il [] := by rw [eI42, va_up_self]; rfl
  have kk := kk.new g42 eI42 eR42 zz_23 zr_23 (Or.inl rfl) (by decide)
  have old := old.new g42 eI42 eJ42 eR42
  have oldB := oldB.new g42 eI42 eJ42 eR42
  refine lv_dup hx hb dX10_init_153 rfl ?_
  refine afA (va_runI (As := []) (rest := [.ref q42, .int 5, .ref q13]) ⟨hx, hb, hml, hown, hts⟩ (c_X7_init kk mq42 kq42 riq42 rrq42 z0 ow0) ⟨callB_of 0 hts (wG_code kc_yX7_init) rfl rfl rfl (hts _ kini_X7) (hts _ km_X10_77) ⟨by decide, by decide, by decide +kernel⟩ ⟨by decide, by decide⟩, rfl, hts _ ki_yX7_init⟩ (preS hH) rfl rfl hl.1 rfl (lv_room (Nat.le_of_ble_eq_true rfl)) dX10_init_154 ⟨by decide, by decide⟩) hH (fun L43 C43 I43 J43 R43 H locs hp hH => ?_)
  obtain ⟨kk, od43, kq43, z0, ow0, nw43⟩ := hp
  have ne43 : a0 ≠ q42 := ne_role ka0 kq42 (by decide)
  have rra0 : R43 a0 = rl [(8, q24), (7, q21), (6, q18), (5, q15), (4, q13), (3, q10), (2, q7), (1, q4), (0, q1)] := ((od43 a0 ma0).2 ne43).2.2.2.trans rra0
  have ria0 : I43 a0 = il [] := ((od43 a0 ma0).2 ne43).2.1.trans ria0
  have ka0 : C43 a0 = 26 := ((od43 a0 ma0).2 ne43).1.trans ka0
  have ma0 := (od43 a0 ma0).1
  have ne43 : q13 ≠ q42 := ne_role kq13 kq42 (by decide)
  have rrq13 : R43 q13 = rl [(4, q39), (3, q36), (2, q33), (1, q30), (0, q27)] := ((od43 q13 mq13).2 ne43).2.2.2.trans rrq13
  have riq13 : I43 q13 = il [] := ((od43 q13 mq13).2 ne43).2.1.trans riq13
  have kq13 : C43 q13 = 60 := ((od43 q13 mq13).2 ne43).1.trans kq13
  have mq13 := (od43 q13 mq13).1
  have ne43 : q15 ≠ q42 := ne_role kq15 kq42 (by decide)
  have rrq15 : R43 q15 = rl [(1, q13), (0, q10), (6, z16_q7), (3, z16_q3), (2, z16_q1)] := ((od43 q15 mq15).2 ne43).2.2.2.trans rrq15
  have riq15 : I43 q15 = il [(5, 0), (4, 0)] := ((od43 q15 mq15).2 ne43).2.1.trans riq15
  have kq15 : C43 q15 = 25 := ((od43 q15 mq15).2 ne43).1.trans kq15
  have mq15 := (od43 q15 mq15).1
  have al := al.old od43 kq42 rfl
  have kq42 : C43 q42 = 7 := kq43
  have mq42 := (od43 q42 mq42).1
  have old := old.ctor od43 nq42
  have oldB := oldB.ctor od43 n2q42
  have nl := nl.old od43
  have al := al.con0 mq42 kq42 rfl
  have kk : KK L43 C43 I43 R43 [0, 1, 2, 3, 4, 5, 6, 7, 8, 16, 17, 18, 19, 20, 21, 22, 23, 24, 25, 26, 32, 33, 34, 35, 36, 37, 38, 39, 40, 41, 42, 43, 44, 45, 46, 47, 48, 49, 50, 51, 52, 53, 54, 55, 56, 58, 59, 60] := kk.wS rfl
  have mq42 : q42 ∈ L43 := (al.at (i := 0) rfl).1
  have kq42 : C43 q42 = 7 := (al.at (i := 0) rfl).2
  refine st_60 hx hb hH mq13 kq13 (Rg_in (Rg_c (x := 5) (a := 5) (b := 5) (by decide)) (by decide)) mq42 kq42 rfl dX10_init_157 (fun R44 H locs eR44 hH => ?_)
  have rra0 : R44 a0 = rl [(8, q24), (7, q21), (6, q18), (5, q15), (4, q13), (3, q10), (2, q7), (1, q4), (0, q1)] := by rw [eR44, u2_ne (ne_role ka0 kq13 (by decide))]; exact rra0
  have rrq15 : R44 q15 = rl [(1, q13), (0, q10), (6, z16_q7), (3, z16_q3), (2, z16_q1)] := by rw [eR44, u2_ne (ne_role kq15 kq13 (by decide))]; exact rrq15
  have rrq13 : R44 q13 = rl [(5, q42), (4, q39), (3, q36), (2, q33), (1, q30), (0, q27)] := by rw [eR44]; exact rl_put rrq13
  have kk : KK L43 C43 I43 R44 [0, 1, 2, 3, 4, 5, 6, 7, 8, 16, 17, 18, 19, 20, 21, 22, 23, 24, 25, 26, 32, 33, 34, 35, 36, 37, 38, 39, 40, 41, 42, 43, 44, 45, 46, 47, 48, 49, 50, 51, 52, 53, 54, 55, 56, 58, 59, 60] := by rw [eR44]; exact kk.stR kq13 zr_60
  have old : Old L0 C0 (I0, J0, R0) a0 L43 C43 I43 J43 R44 := by rw [eR44]; exact old.stR (Or.inr nq13)
  have oldB : Old L28 C28 (I28, J28, R28) q13 L43 C43 I43 J43 R44 := by rw [eR44]; exact oldB.stR (Or.inl rfl)
  have ow0 := ow0.stR kq13 rfl eR44
  refine lv_iinc (v := 6) (lv' := [(1, .int 6), (0, .ref a0)]) hx hb dX10_init_158 hl (k := 0) rfl (by decide) (by decide) rfl (fun ls hl => ?_)
  refine lv_goto (tgt := 139) hx hb dX10_init_161 (by decide) ?_
  refine lv_iload_n hx hb dX10_init_139 rfl (lv_at hl 0 rfl) ?_
  refine lv_bipush (v := 20) hx hb dX10_init_140 (by decide) ?_
  refine lv_icmp_ge (tgt := 164) hx hb dX10_init_142 (by decide) (fun q => absurd q (by decide)) (fun q => ?_)
  refine lv_aload_n hx hb dX10_init_145 rfl (lv_at hl 1 rfl) ?_
  refine gf_10_4 (b := q13) (by rw [rra0]; rfl) hx hb hts hown hH ma0 ka0 rfl kf_X10_41 dX10_init_146 ?_
  refine lv_iload_n hx hb dX10_init_149 rfl (lv_at hl 0 rfl) ?_
  refine hNew (ci := 7) (N := 2) hx hb hts hown hH inX7 tyX7_ok rfl (by decide) rfl df_7 kcl_X10_39 kinst_X7 kini_X7 (by decide) (by decide) dX10_init_150 (fun q45 L45 C45 I45 J45 R45 H g45 eI45 eJ45 eR45 hH => ?_)
  have nq45 : q45 ∉ L0 := fun h => g45.2.2 (old q45 h).1
  have n2q45 : q45 ∉ L28 := fun h => g45.2.2 (oldB q45 h).1
  have rra0 : R45 a0 = rl [(8, q24), (7, q21), (6, q18), (5, q15), (4, q13), (3, q10), (2, q7), (1, q4), (0, q1)] := by rw [eR45, va_up_ne _ _ (g45.ne ma0)]; exact rra0
  have ria0 : I45 a0 = il [] := by rw [eI45, va_up_ne _ _ (g45.ne ma0)]; exact ria0
  have ka0 := g45.role ma0 ka0
  have ma0 := g45.mem ma0
  have rrq13 : R45 q13 = rl [(5, q42), (4, q39), (3, q36), (2, q33), (1, q30), (0, q27)] := by rw [eR45, va_up_ne _ _ (g45.ne mq13)]; exact rrq13
  have riq13 : I45 q13 = il [] := by rw [eI45, va_up_ne _ _ (g45.ne mq13)]; exact riq13
  have kq13 := g45.role mq13 kq13
  have mq13 := g45.mem mq13
  have rrq15 : R45 q15 = rl [(1, q13), (0, q10), (6, z16_q7), (3, z16_q3), (2, z16_q1)] := by rw [eR45, va_up_ne _ _ (g45.ne mq15)]; exact rrq15
  have riq15 : I45 q15 = il [(5, 0), (4, 0)] := by rw [eI45, va_up_ne _ _ (g45.ne mq15)]; exact riq15
  have kq15 := g45.role mq15 kq15
  have mq15 := g45.mem mq15
  have mq45 := g45.new
  have kq45 := g45.at
  have al := al.new g45 eI45
  have z0 := z0.new g45 eI45 eJ45
  have ow0 := ow0.new g45 eR45
  have nl := nl.push g45
  have rrq45 : R45 q45 = rl [] := by rw [eR45, va_up_self]; rfl
  have riq45 : I45 q45 = il [] := by rw [eI45, va_up_self]; rfl
  have kk := kk.new g45 eI45 eR45 zz_23 zr_23 (Or.inl rfl) (by decide)
  have old := old.new g45 eI45 eJ45 eR45
  have oldB := oldB.new g45 eI45 eJ45 eR45
  refine lv_dup hx hb dX10_init_153 rfl ?_
  refine afA (va_runI (As := []) (rest := [.ref q45, .int 6, .ref q13]) ⟨hx, hb, hml, hown, hts⟩ (c_X7_init kk mq45 kq45 riq45 rrq45 z0 ow0) ⟨callB_of 0 hts (wG_code kc_yX7_init) rfl rfl rfl (hts _ kini_X7) (hts _ km_X10_77) ⟨by decide, by decide, by decide +kernel⟩ ⟨by decide, by decide⟩, rfl, hts _ ki_yX7_init⟩ (preS hH) rfl rfl hl.1 rfl (lv_room (Nat.le_of_ble_eq_true rfl)) dX10_init_154 ⟨by decide, by decide⟩) hH (fun L46 C46 I46 J46 R46 H locs hp hH => ?_)
  obtain ⟨kk, od46, kq46, z0, ow0, nw46⟩ := hp
  have ne46 : a0 ≠ q45 := ne_role ka0 kq45 (by decide)
  have rra0 : R46 a0 = rl [(8, q24), (7, q21), (6, q18), (5, q15), (4, q13), (3, q10), (2, q7), (1, q4), (0, q1)] := ((od46 a0 ma0).2 ne46).2.2.2.trans rra0
  have ria0 : I46 a0 = il [] := ((od46 a0 ma0).2 ne46).2.1.trans ria0
  have ka0 : C46 a0 = 26 := ((od46 a0 ma0).2 ne46).1.trans ka0
  have ma0 := (od46 a0 ma0).1
  have ne46 : q13 ≠ q45 := ne_role kq13 kq45 (by decide)
  have rrq13 : R46 q13 = rl [(5, q42), (4, q39), (3, q36), (2, q33), (1, q30), (0, q27)] := ((od46 q13 mq13).2 ne46).2.2.2.trans rrq13
  have riq13 : I46 q13 = il [] := ((od46 q13 mq13).2 ne46).2.1.trans riq13
  have kq13 : C46 q13 = 60 := ((od46 q13 mq13).2 ne46).1.trans kq13
  have mq13 := (od46 q13 mq13).1
  have ne46 : q15 ≠ q45 := ne_role kq15 kq45 (by decide)
  have rrq15 : R46 q15 = rl [(1, q13), (0, q10), (6, z16_q7), (3, z16_q3), (2, z16_q1)] := ((od46 q15 mq15).2 ne46).2.2.2.trans rrq15
  have riq15 : I46 q15 = il [(5, 0), (4, 0)] := ((od46 q15 mq15).2 ne46).2.1.trans riq15
  have kq15 : C46 q15 = 25 := ((od46 q15 mq15).2 ne46).1.trans kq15
  have mq15 := (od46 q15 mq15).1
  have al := al.old od46 kq45 rfl
  have kq45 : C46 q45 = 7 := kq46
  have mq45 := (od46 q45 mq45).1
  have old := old.ctor od46 nq45
  have oldB := oldB.ctor od46 n2q45
  have nl := nl.old od46
  have al := al.con0 mq45 kq45 rfl
  have kk : KK L46 C46 I46 R46 [0, 1, 2, 3, 4, 5, 6, 7, 8, 16, 17, 18, 19, 20, 21, 22, 23, 24, 25, 26, 32, 33, 34, 35, 36, 37, 38, 39, 40, 41, 42, 43, 44, 45, 46, 47, 48, 49, 50, 51, 52, 53, 54, 55, 56, 58, 59, 60] := kk.wS rfl
  have mq45 : q45 ∈ L46 := (al.at (i := 0) rfl).1
  have kq45 : C46 q45 = 7 := (al.at (i := 0) rfl).2
  refine st_60 hx hb hH mq13 kq13 (Rg_in (Rg_c (x := 6) (a := 6) (b := 6) (by decide)) (by decide)) mq45 kq45 rfl dX10_init_157 (fun R47 H locs eR47 hH => ?_)
  have rra0 : R47 a0 = rl [(8, q24), (7, q21), (6, q18), (5, q15), (4, q13), (3, q10), (2, q7), (1, q4), (0, q1)] := by rw [eR47, u2_ne (ne_role ka0 kq13 (by decide))]; exact rra0
  have rrq15 : R47 q15 = rl [(1, q13), (0, q10), (6, z16_q7), (3, z16_q3), (2, z16_q1)] := by rw [eR47, u2_ne (ne_role kq15 kq13 (by decide))]; exact rrq15
  have rrq13 : R47 q13 = rl [(6, q45), (5, q42), (4, q39), (3, q36), (2, q33), (1, q30), (0, q27)] := by rw [eR47]; exact rl_put rrq13
  have kk : KK L46 C46 I46 R47 [0, 1, 2, 3, 4, 5, 6, 7, 8, 16, 17, 18, 19, 20, 21, 22, 23, 24, 25, 26, 32, 33, 34, 35, 36, 37, 38, 39, 40, 41, 42, 43, 44, 45, 46, 47, 48, 49, 50, 51, 52, 53, 54, 55, 56, 58, 59, 60] := by rw [eR47]; exact kk.stR kq13 zr_60
  have old : Old L0 C0 (I0, J0, R0) a0 L46 C46 I46 J46 R47 := by rw [eR47]; exact old.stR (Or.inr nq13)
  have oldB : Old L28 C28 (I28, J28, R28) q13 L46 C46 I46 J46 R47 := by rw [eR47]; exact oldB.stR (Or.inl rfl)
  have ow0 := ow0.stR kq13 rfl eR47
  refine lv_iinc (v := 7) (lv' := [(1, .int 7), (0, .ref a0)]) hx hb dX10_init_158 hl (k := 0) rfl (by decide) (by decide) rfl (fun ls hl => ?_)
  refine lv_goto (tgt := 139) hx hb dX10_init_161 (by decide) ?_
  refine lv_iload_n hx hb dX10_init_139 rfl (lv_at hl 0 rfl) ?_
  refine lv_bipush (v := 20) hx hb dX10_init_140 (by decide) ?_
  refine lv_icmp_ge (tgt := 164) hx hb dX10_init_142 (by decide) (fun q => absurd q (by decide)) (fun q => ?_)
  refine lv_aload_n hx hb dX10_init_145 rfl (lv_at hl 1 rfl) ?_
  refine gf_10_4 (b := q13) (by rw [rra0]; rfl) hx hb hts hown hH ma0 ka0 rfl kf_X10_41 dX10_init_146 ?_
  refine lv_iload_n hx hb dX10_init_149 rfl (lv_at hl 0 rfl) ?_
  refine hNew (ci := 7) (N := 2) hx hb hts hown hH inX7 tyX7_ok rfl (by decide) rfl df_7 kcl_X10_39 kinst_X7 kini_X7 (by decide) (by decide) dX10_init_150 (fun q48 L48 C48 I48 J48 R48 H g48 eI48 eJ48 eR48 hH => ?_)
  have nq48 : q48 ∉ L0 := fun h => g48.2.2 (old q48 h).1
  have n2q48 : q48 ∉ L28 := fun h => g48.2.2 (oldB q48 h).1
  have rra0 : R48 a0 = rl [(8, q24), (7, q21), (6, q18), (5, q15), (4, q13), (3, q10), (2, q7), (1, q4), (0, q1)] := by rw [eR48, va_up_ne _ _ (g48.ne ma0)]; exact rra0
  have ria0 : I48 a0 = il [] := by rw [eI48, va_up_ne _ _ (g48.ne ma0)]; exact ria0
  have ka0 := g48.role ma0 ka0
  have ma0 := g48.mem ma0
  have rrq13 : R48 q13 = rl [(6, q45), (5, q42), (4, q39), (3, q36), (2, q33), (1, q30), (0, q27)] := by rw [eR48, va_up_ne _ _ (g48.ne mq13)]; exact rrq13
  have riq13 : I48 q13 = il [] := by rw [eI48, va_up_ne _ _ (g48.ne mq13)]; exact riq13
  have kq13 := g48.role mq13 kq13
  have mq13 := g48.mem mq13
  have rrq15 : R48 q15 = rl [(1, q13), (0, q10), (6, z16_q7), (3, z16_q3), (2, z16_q1)] := by rw [eR48, va_up_ne _ _ (g48.ne mq15)]; exact rrq15
  have riq15 : I48 q15 = il [(5, 0), (4, 0)] := by rw [eI48, va_up_ne _ _ (g48.ne mq15)]; exact riq15
  have kq15 := g48.role mq15 kq15
  have mq15 := g48.mem mq15
  have mq48 := g48.new
  have kq48 := g48.at
  have al := al.new g48 eI48
  have z0 := z0.new g48 eI48 eJ48
  have ow0 := ow0.new g48 eR48
  have nl := nl.push g48
  have rrq48 : R48 q48 = rl [] := by rw [eR48, va_up_self]; rfl
  have riq48 : I48 q48 = il [] := by rw [eI48, va_up_self]; rfl
  have kk := kk.new g48 eI48 eR48 zz_23 zr_23 (Or.inl rfl) (by decide)
  have old := old.new g48 eI48 eJ48 eR48
  have oldB := oldB.new g48 eI48 eJ48 eR48
  refine lv_dup hx hb dX10_init_153 rfl ?_
  refine afA (va_runI (As := []) (rest := [.ref q48, .int 7, .ref q13]) ⟨hx, hb, hml, hown, hts⟩ (c_X7_init kk mq48 kq48 riq48 rrq48 z0 ow0) ⟨callB_of 0 hts (wG_code kc_yX7_init) rfl rfl rfl (hts _ kini_X7) (hts _ km_X10_77) ⟨by decide, by decide, by decide +kernel⟩ ⟨by decide, by decide⟩, rfl, hts _ ki_yX7_init⟩ (preS hH) rfl rfl hl.1 rfl (lv_room (Nat.le_of_ble_eq_true rfl)) dX10_init_154 ⟨by decide, by decide⟩) hH (fun L49 C49 I49 J49 R49 H locs hp hH => ?_)
  obtain ⟨kk, od49, kq49, z0, ow0, nw49⟩ := hp
  have ne49 : a0 ≠ q48 := ne_role ka0 kq48 (by decide)
  have rra0 : R49 a0 = rl [(8, q24), (7, q21), (6, q18), (5, q15), (4, q13), (3, q10), (2, q7), (1, q4), (0, q1)] := ((od49 a0 ma0).2 ne49).2.2.2.trans rra0
  have ria0 : I49 a0 = il [] := ((od49 a0 ma0).2 ne49).2.1.trans ria0
  have ka0 : C49 a0 = 26 := ((od49 a0 ma0).2 ne49).1.trans ka0
  have ma0 := (od49 a0 ma0).1
  have ne49 : q13 ≠ q48 := ne_role kq13 kq48 (by decide)
  have rrq13 : R49 q13 = rl [(6, q45), (5, q42), (4, q39), (3, q36), (2, q33), (1, q30), (0, q27)] := ((od49 q13 mq13).2 ne49).2.2.2.trans rrq13
  have riq13 : I49 q13 = il [] := ((od49 q13 mq13).2 ne49).2.1.trans riq13
  have kq13 : C49 q13 = 60 := ((od49 q13 mq13).2 ne49).1.trans kq13
  have mq13 := (od49 q13 mq13).1
  have ne49 : q15 ≠ q48 := ne_role kq15 kq48 (by decide)
  have rrq15 : R49 q15 = rl [(1, q13), (0, q10), (6, z16_q7), (3, z16_q3), (2, z16_q1)] := ((od49 q15 mq15).2 ne49).2.2.2.trans rrq15
  have riq15 : I49 q15 = il [(5, 0), (4, 0)] := ((od49 q15 mq15).2 ne49).2.1.trans riq15
  have kq15 : C49 q15 = 25 := ((od49 q15 mq15).2 ne49).1.trans kq15
  have mq15 := (od49 q15 mq15).1
  have al := al.old od49 kq48 rfl
  have kq48 : C49 q48 = 7 := kq49
  have mq48 := (od49 q48 mq48).1
  have old := old.ctor od49 nq48
  have oldB := oldB.ctor od49 n2q48
  have nl := nl.old od49
  have al := al.con0 mq48 kq48 rfl
  have kk : KK L49 C49 I49 R49 [0, 1, 2, 3, 4, 5, 6, 7, 8, 16, 17, 18, 19, 20, 21, 22, 23, 24, 25, 26, 32, 33, 34, 35, 36, 37, 38, 39, 40, 41, 42, 43, 44, 45, 46, 47, 48, 49, 50, 51, 52, 53, 54, 55, 56, 58, 59, 60] := kk.wS rfl
  have mq48 : q48 ∈ L49 := (al.at (i := 0) rfl).1
  have kq48 : C49 q48 = 7 := (al.at (i := 0) rfl).2
  refine st_60 hx hb hH mq13 kq13 (Rg_in (Rg_c (x := 7) (a := 7) (b := 7) (by decide)) (by decide)) mq48 kq48 rfl dX10_init_157 (fun R50 H locs eR50 hH => ?_)
  have rra0 : R50 a0 = rl [(8, q24), (7, q21), (6, q18), (5, q15), (4, q13), (3, q10), (2, q7), (1, q4), (0, q1)] := by rw [eR50, u2_ne (ne_role ka0 kq13 (by decide))]; exact rra0
  have rrq15 : R50 q15 = rl [(1, q13), (0, q10), (6, z16_q7), (3, z16_q3), (2, z16_q1)] := by rw [eR50, u2_ne (ne_role kq15 kq13 (by decide))]; exact rrq15
  have rrq13 : R50 q13 = rl [(7, q48), (6, q45), (5, q42), (4, q39), (3, q36), (2, q33), (1, q30), (0, q27)] := by rw [eR50]; exact rl_put rrq13
  have kk : KK L49 C49 I49 R50 [0, 1, 2, 3, 4, 5, 6, 7, 8, 16, 17, 18, 19, 20, 21, 22, 23, 24, 25, 26, 32, 33, 34, 35, 36, 37, 38, 39, 40, 41, 42, 43, 44, 45, 46, 47, 48, 49, 50, 51, 52, 53, 54, 55, 56, 58, 59, 60] := by rw [eR50]; exact kk.stR kq13 zr_60
  have old : Old L0 C0 (I0, J0, R0) a0 L49 C49 I49 J49 R50 := by rw [eR50]; exact old.stR (Or.inr nq13)
  have oldB : Old L28 C28 (I28, J28, R28) q13 L49 C49 I49 J49 R50 := by rw [eR50]; exact oldB.stR (Or.inl rfl)
  have ow0 := ow0.stR kq13 rfl eR50
  refine lv_iinc (v := 8) (lv' := [(1, .int 8), (0, .ref a0)]) hx hb dX10_init_158 hl (k := 0) rfl (by decide) (by decide) rfl (fun ls hl => ?_)
  refine lv_goto (tgt := 139) hx hb dX10_init_161 (by decide) ?_
  refine lv_iload_n hx hb dX10_init_139 rfl (lv_at hl 0 rfl) ?_
  refine lv_bipush (v := 20) hx hb dX10_init_140 (by decide) ?_
  refine lv_icmp_ge (tgt := 164) hx hb dX10_init_142 (by decide) (fun q => absurd q (by decide)) (fun q => ?_)
  refine lv_aload_n hx hb dX10_init_145 rfl (lv_at hl 1 rfl) ?_
  refine gf_10_4 (b := q13) (by rw [rra0]; rfl) hx hb hts hown hH ma0 ka0 rfl kf_X10_41 dX10_init_146 ?_
  refine lv_iload_n hx hb dX10_init_149 rfl (lv_at hl 0 rfl) ?_
  refine hNew (ci := 7) (N := 2) hx hb hts hown hH inX7 tyX7_ok rfl (by decide) rfl df_7 kcl_X10_39 kinst_X7 kini_X7 (by decide) (by decide) dX10_init_150 (fun q51 L51 C51 I51 J51 R51 H g51 eI51 eJ51 eR51 hH => ?_)
  have nq51 : q51 ∉ L0 := fun h => g51.2.2 (old q51 h).1
  have n2q51 : q51 ∉ L28 := fun h => g51.2.2 (oldB q51 h).1
  have rra0 : R51 a0 = rl [(8, q24), (7, q21), (6, q18), (5, q15), (4, q13), (3, q10), (2, q7), (1, q4), (0, q1)] := by rw [eR51, va_up_ne _ _ (g51.ne ma0)]; exact rra0
  have ria0 : I51 a0 = il [] := by rw [eI51, va_up_ne _ _ (g51.ne ma0)]; exact ria0
  have ka0 := g51.role ma0 ka0
  have ma0 := g51.mem ma0
  have rrq13 : R51 q13 = rl [(7, q48), (6, q45), (5, q42), (4, q39), (3, q36), (2, q33), (1, q30), (0, q27)] := by rw [eR51, va_up_ne _ _ (g51.ne mq13)]; exact rrq13
  have riq13 : I51 q13 = il [] := by rw [eI51, va_up_ne _ _ (g51.ne mq13)]; exact riq13
  have kq13 := g51.role mq13 kq13
  have mq13 := g51.mem mq13
  have rrq15 : R51 q15 = rl [(1, q13), (0, q10), (6, z16_q7), (3, z16_q3), (2, z16_q1)] := by rw [eR51, va_up_ne _ _ (g51.ne mq15)]; exact rrq15
  have riq15 : I51 q15 = il [(5, 0), (4, 0)] := by rw [eI51, va_up_ne _ _ (g51.ne mq15)]; exact riq15
  have kq15 := g51.role mq15 kq15
  have mq15 := g51.mem mq15
  have mq51 := g51.new
  have kq51 := g51.at
  have al := al.new g51 eI51
  have z0 := z0.new g51 eI51 eJ51
  have ow0 := ow0.new g51 eR51
  have nl := nl.push g51
  have rrq51 : R51 q51 = rl [] := by rw [eR51, va_up_self]; rfl
  have riq51 : I51 q51 = il [] := by rw [eI51, va_up_self]; rfl
  have kk := kk.new g51 eI51 eR51 zz_23 zr_23 (Or.inl rfl) (by decide)
  have old := old.new g51 eI51 eJ51 eR51
  have oldB := oldB.new g51 eI51 eJ51 eR51
  refine lv_dup hx hb dX10_init_153 rfl ?_
  refine afA (va_runI (As := []) (rest := [.ref q51, .int 8, .ref q13]) ⟨hx, hb, hml, hown, hts⟩ (c_X7_init kk mq51 kq51 riq51 rrq51 z0 ow0) ⟨callB_of 0 hts (wG_code kc_yX7_init) rfl rfl rfl (hts _ kini_X7) (hts _ km_X10_77) ⟨by decide, by decide, by decide +kernel⟩ ⟨by decide, by decide⟩, rfl, hts _ ki_yX7_init⟩ (preS hH) rfl rfl hl.1 rfl (lv_room (Nat.le_of_ble_eq_true rfl)) dX10_init_154 ⟨by decide, by decide⟩) hH (fun L52 C52 I52 J52 R52 H locs hp hH => ?_)
  obtain ⟨kk, od52, kq52, z0, ow0, nw52⟩ := hp
  have ne52 : a0 ≠ q51 := ne_role ka0 kq51 (by decide)
  have rra0 : R52 a0 = rl [(8, q24), (7, q21), (6, q18), (5, q15), (4, q13), (3, q10), (2, q7), (1, q4), (0, q1)] := ((od52 a0 ma0).2 ne52).2.2.2.trans rra0
  have ria0 : I52 a0 = il [] := ((od52 a0 ma0).2 ne52).2.1.trans ria0
  have ka0 : C52 a0 = 26 := ((od52 a0 ma0).2 ne52).1.trans ka0
  have ma0 := (od52 a0 ma0).1
  have ne52 : q13 ≠ q51 := ne_role kq13 kq51 (by decide)
  have rrq13 : R52 q13 = rl [(7, q48), (6, q45), (5, q42), (4, q39), (3, q36), (2, q33), (1, q30), (0, q27)] := ((od52 q13 mq13).2 ne52).2.2.2.trans rrq13
  have riq13 : I52 q13 = il [] := ((od52 q13 mq13).2 ne52).2.1.trans riq13
  have kq13 : C52 q13 = 60 := ((od52 q13 mq13).2 ne52).1.trans kq13
  have mq13 := (od52 q13 mq13).1
  have ne52 : q15 ≠ q51 := ne_role kq15 kq51 (by decide)
  have rrq15 : R52 q15 = rl [(1, q13), (0, q10), (6, z16_q7), (3, z16_q3), (2, z16_q1)] := ((od52 q15 mq15).2 ne52).2.2.2.trans rrq15
  have riq15 : I52 q15 = il [(5, 0), (4, 0)] := ((od52 q15 mq15).2 ne52).2.1.trans riq15
  have kq15 : C52 q15 = 25 := ((od52 q15 mq15).2 ne52).1.trans kq15
  have mq15 := (od52 q15 mq15).1
  have al := al.old od52 kq51 rfl
  have kq51 : C52 q51 = 7 := kq52
  have mq51 := (od52 q51 mq51).1
  have old := old.ctor od52 nq51
  have oldB := oldB.ctor od52 n2q51
  have nl := nl.old od52
  have al := al.con0 mq51 kq51 rfl
  have kk : KK L52 C52 I52 R52 [0, 1, 2, 3, 4, 5, 6, 7, 8, 16, 17, 18, 19, 20, 21, 22, 23, 24, 25, 26, 32, 33, 34, 35, 36, 37, 38, 39, 40, 41, 42, 43, 44, 45, 46, 47, 48, 49, 50, 51, 52, 53, 54, 55, 56, 58, 59, 60] := kk.wS rfl
  have mq51 : q51 ∈ L52 := (al.at (i := 0) rfl).1
  have kq51 : C52 q51 = 7 := (al.at (i := 0) rfl).2
  refine st_60 hx hb hH mq13 kq13 (Rg_in (Rg_c (x := 8) (a := 8) (b := 8) (by decide)) (by decide)) mq51 kq51 rfl dX10_init_157 (fun R53 H locs eR53 hH => ?_)
  have rra0 : R53 a0 = rl [(8, q24), (7, q21), (6, q18), (5, q15), (4, q13), (3, q10), (2, q7), (1, q4), (0, q1)] := by rw [eR53, u2_ne (ne_role ka0 kq13 (by decide))]; exact rra0
  have rrq15 : R53 q15 = rl [(1, q13), (0, q10), (6, z16_q7), (3, z16_q3), (2, z16_q1)] := by rw [eR53, u2_ne (ne_role kq15 kq13 (by decide))]; exact rrq15
  have rrq13 : R53 q13 = rl [(8, q51), (7, q48), (6, q45), (5, q42), (4, q39), (3, q36), (2, q33), (1, q30), (0, q27)] := by rw [eR53]; exact rl_put rrq13
  have kk : KK L52 C52 I52 R53 [0, 1, 2, 3, 4, 5, 6, 7, 8, 16, 17, 18, 19, 20, 21, 22, 23, 24, 25, 26, 32, 33, 34, 35, 36, 37, 38, 39, 40, 41, 42, 43, 44, 45, 46, 47, 48, 49, 50, 51, 52, 53, 54, 55, 56, 58, 59, 60] := by rw [eR53]; exact kk.stR kq13 zr_60
  have old : Old L0 C0 (I0, J0, R0) a0 L52 C52 I52 J52 R53 := by rw [eR53]; exact old.stR (Or.inr nq13)
  have oldB : Old L28 C28 (I28, J28, R28) q13 L52 C52 I52 J52 R53 := by rw [eR53]; exact oldB.stR (Or.inl rfl)
  have ow0 := ow0.stR kq13 rfl eR53
  refine lv_iinc (v := 9) (lv' := [(1, .int 9), (0, .ref a0)]) hx hb dX10_init_158 hl (k := 0) rfl (by decide) (by decide) rfl (fun ls hl => ?_)
  refine lv_goto (tgt := 139) hx hb dX10_init_161 (by decide) ?_
  refine lv_iload_n hx hb dX10_init_139 rfl (lv_at hl 0 rfl) ?_
  refine lv_bipush (v := 20) hx hb dX10_init_140 (by decide) ?_
  refine lv_icmp_ge (tgt := 164) hx hb dX10_init_142 (by decide) (fun q => absurd q (by decide)) (fun q => ?_)
  refine lv_aload_n hx hb dX10_init_145 rfl (lv_at hl 1 rfl) ?_
  refine gf_10_4 (b := q13) (by rw [rra0]; rfl) hx hb hts hown hH ma0 ka0 rfl kf_X10_41 dX10_init_146 ?_
  refine lv_iload_n hx hb dX10_init_149 rfl (lv_at hl 0 rfl) ?_
  refine hNew (ci := 7) (N := 2) hx hb hts hown hH inX7 tyX7_ok rfl (by decide) rfl df_7 kcl_X10_39 kinst_X7 kini_X7 (by decide) (by decide) dX10_init_150 (fun q54 L54 C54 I54 J54 R54 H g54 eI54 eJ54 eR54 hH => ?_)
  have nq54 : q54 ∉ L0 := fun h => g54.2.2 (old q54 h).1
  have n2q54 : q54 ∉ L28 := fun h => g54.2.2 (oldB q54 h).1
  have rra0 : R54 a0 = rl [(8, q24), (7, q21), (6, q18), (5, q15), (4, q13), (3, q10), (2, q7), (1, q4), (0, q1)] := by rw [eR54, va_up_ne _ _ (g54.ne ma0)]; exact rra0
  have ria0 : I54 a0 = il [] := by rw [eI54, va_up_ne _ _ (g54.ne ma0)]; exact ria0
  have ka0 := g54.role ma0 ka0
  have ma0 := g54.mem ma0
  have rrq13 : R54 q13 = rl [(8, q51), (7, q48), (6, q45), (5, q42), (4, q39), (3, q36), (2, q33), (1, q30), (0, q27)] := by rw [eR54, va_up_ne _ _ (g54.ne mq13)]; exact rrq13
  have riq13 : I54 q13 = il [] := by rw [eI54, va_up_ne _ _ (g54.ne mq13)]; exact riq13
  have kq13 := g54.role mq13 kq13
  have mq13 := g54.mem mq13
  have rrq15 : R54 q15 = rl [(1, q13), (0, q10), (6, z16_q7), (3, z16_q3), (2, z16_q1)] := by rw [eR54, va_up_ne _ _ (g54.ne mq15)]; exact rrq15
  have riq15 : I54 q15 = il [(5, 0), (4, 0)] := by rw [eI54, va_up_ne _ _ (g54.ne mq15)]; exact riq15
  have kq15 := g54.role mq15 kq15
  have mq15 := g54.mem mq15
  have mq54 := g54.new
  have kq54 := g54.at
  have al := al.new g54 eI54
  have z0 := z0.new g54 eI54 eJ54
  have ow0 := ow0.new g54 eR54
  have nl := nl.push g54
  have rrq54 : R54 q54 = rl [] := by rw [eR54, va_up_self]; rfl
  have riq54 : I54 q54 = il [] := by rw [eI54, va_up_self]; rfl
  have kk := kk.new g54 eI54 eR54 zz_23 zr_23 (Or.inl rfl) (by decide)
  have old := old.new g54 eI54 eJ54 eR54
  have oldB := oldB.new g54 eI54 eJ54 eR54
  refine lv_dup hx hb dX10_init_153 rfl ?_
  refine afA (va_runI (As := []) (rest := [.ref q54, .int 9, .ref q13]) ⟨hx, hb, hml, hown, hts⟩ (c_X7_init kk mq54 kq54 riq54 rrq54 z0 ow0) ⟨callB_of 0 hts (wG_code kc_yX7_init) rfl rfl rfl (hts _ kini_X7) (hts _ km_X10_77) ⟨by decide, by decide, by decide +kernel⟩ ⟨by decide, by decide⟩, rfl, hts _ ki_yX7_init⟩ (preS hH) rfl rfl hl.1 rfl (lv_room (Nat.le_of_ble_eq_true rfl)) dX10_init_154 ⟨by decide, by decide⟩) hH (fun L55 C55 I55 J55 R55 H locs hp hH => ?_)
  obtain ⟨kk, od55, kq55, z0, ow0, nw55⟩ := hp
  have ne55 : a0 ≠ q54 := ne_role ka0 kq54 (by decide)
  have rra0 : R55 a0 = rl [(8, q24), (7, q21), (6, q18), (5, q15), (4, q13), (3, q10), (2, q7), (1, q4), (0, q1)] := ((od55 a0 ma0).2 ne55).2.2.2.trans rra0
  have ria0 : I55 a0 = il [] := ((od55 a0 ma0).2 ne55).2.1.trans ria0
  have ka0 : C55 a0 = 26 := ((od55 a0 ma0).2 ne55).1.trans ka0
  have ma0 := (od55 a0 ma0).1
  have ne55 : q13 ≠ q54 := ne_role kq13 kq54 (by decide)
  have rrq13 : R55 q13 = rl [(8, q51), (7, q48), (6, q45), (5, q42), (4, q39), (3, q36), (2, q33), (1, q30), (0, q27)] := ((od55 q13 mq13).2 ne55).2.2.2.trans rrq13
  have riq13 : I55 q13 = il [] := ((od55 q13 mq13).2 ne55).2.1.trans riq13
  have kq13 : C55 q13 = 60 := ((od55 q13 mq13).2 ne55).1.trans kq13
  have mq13 := (od55 q13 mq13).1
  have ne55 : q15 ≠ q54 := ne_role kq15 kq54 (by decide)
  have rrq15 : R55 q15 = rl [(1, q13), (0, q10), (6, z16_q7), (3, z16_q3), (2, z16_q1)] := ((od55 q15 mq15).2 ne55).2.2.2.trans rrq15
  have riq15 : I55 q15 = il [(5, 0), (4, 0)] := ((od55 q15 mq15).2 ne55).2.1.trans riq15
  have kq15 : C55 q15 = 25 := ((od55 q15 mq15).2 ne55).1.trans kq15
  have mq15 := (od55 q15 mq15).1
  have al := al.old od55 kq54 rfl
  have kq54 : C55 q54 = 7 := kq55
  have mq54 := (od55 q54 mq54).1
  have old := old.ctor od55 nq54
  have oldB := oldB.ctor od55 n2q54
  have nl := nl.old od55
  have al := al.con0 mq54 kq54 rfl
  have kk : KK L55 C55 I55 R55 [0, 1, 2, 3, 4, 5, 6, 7, 8, 16, 17, 18, 19, 20, 21, 22, 23, 24, 25, 26, 32, 33, 34, 35, 36, 37, 38, 39, 40, 41, 42, 43, 44, 45, 46, 47, 48, 49, 50, 51, 52, 53, 54, 55, 56, 58, 59, 60] := kk.wS rfl
  have mq54 : q54 ∈ L55 := (al.at (i := 0) rfl).1
  have kq54 : C55 q54 = 7 := (al.at (i := 0) rfl).2
  refine st_60 hx hb hH mq13 kq13 (Rg_in (Rg_c (x := 9) (a := 9) (b := 9) (by decide)) (by decide)) mq54 kq54 rfl dX10_init_157 (fun R56 H locs eR56 hH => ?_)
  have rra0 : R56 a0 = rl [(8, q24), (7, q21), (6, q18), (5, q15), (4, q13), (3, q10), (2, q7), (1, q4), (0, q1)] := by rw [eR56, u2_ne (ne_role ka0 kq13 (by decide))]; exact rra0
  have rrq15 : R56 q15 = rl [(1, q13), (0, q10), (6, z16_q7), (3, z16_q3), (2, z16_q1)] := by rw [eR56, u2_ne (ne_role kq15 kq13 (by decide))]; exact rrq15
  have rrq13 : R56 q13 = rl [(9, q54), (8, q51), (7, q48), (6, q45), (5, q42), (4, q39), (3, q36), (2, q33), (1, q30), (0, q27)] := by rw [eR56]; exact rl_put rrq13
  have kk : KK L55 C55 I55 R56 [0, 1, 2, 3, 4, 5, 6, 7, 8, 16, 17, 18, 19, 20, 21, 22, 23, 24, 25, 26, 32, 33, 34, 35, 36, 37, 38, 39, 40, 41, 42, 43, 44, 45, 46, 47, 48, 49, 50, 51, 52, 53, 54, 55, 56, 58, 59, 60] := by rw [eR56]; exact kk.stR kq13 zr_60
  have old : Old L0 C0 (I0, J0, R0) a0 L55 C55 I55 J55 R56 := by rw [eR56]; exact old.stR (Or.inr nq13)
  have oldB : Old L28 C28 (I28, J28, R28) q13 L55 C55 I55 J55 R56 := by rw [eR56]; exact oldB.stR (Or.inl rfl)
  have ow0 := ow0.stR kq13 rfl eR56
  refine lv_iinc (v := 10) (lv' := [(1, .int 10), (0, .ref a0)]) hx hb dX10_init_158 hl (k := 0) rfl (by decide) (by decide) rfl (fun ls hl => ?_)
  refine lv_goto (tgt := 139) hx hb dX10_init_161 (by decide) ?_
  refine lv_iload_n hx hb dX10_init_139 rfl (lv_at hl 0 rfl) ?_
  refine lv_bipush (v := 20) hx hb dX10_init_140 (by decide) ?_
  refine lv_icmp_ge (tgt := 164) hx hb dX10_init_142 (by decide) (fun q => absurd q (by decide)) (fun q => ?_)
  refine lv_aload_n hx hb dX10_init_145 rfl (lv_at hl 1 rfl) ?_
  refine gf_10_4 (b := q13) (by rw [rra0]; rfl) hx hb hts hown hH ma0 ka0 rfl kf_X10_41 dX10_init_146 ?_
  refine lv_iload_n hx hb dX10_init_149 rfl (lv_at hl 0 rfl) ?_
  refine hNew (ci := 7) (N := 2) hx hb hts hown hH inX7 tyX7_ok rfl (by decide) rfl df_7 kcl_X10_39 kinst_X7 kini_X7 (by decide) (by decide) dX10_init_150 (fun q57 L57 C57 I57 J57 R57 H g57 eI57 eJ57 eR57 hH => ?_)
  have nq57 : q57 ∉ L0 := fun h => g57.2.2 (old q57 h).1
  have n2q57 : q57 ∉ L28 := fun h => g57.2.2 (oldB q57 h).1
  have rra0 : R57 a0 = rl [(8, q24), (7, q21), (6, q18), (5, q15), (4, q13), (3, q10), (2, q7), (1, q4), (0, q1)] := by rw [eR57, va_up_ne _ _ (g57.ne ma0)]; exact rra0
  have ria0 : I57 a0 = il [] := by rw [eI57, va_up_ne _ _ (g57.ne ma0)]; exact ria0
  have ka0 := g57.role ma0 ka0
  have ma0 := g57.mem ma0
  have rrq13 : R57 q13 = rl [(9, q54), (8, q51), (7, q48), (6, q45), (5, q42), (4, q39), (3, q36), (2, q33), (1, q30), (0, q27)] := by rw [eR57, va_up_ne _ _ (g57.ne mq13)]; exact rrq13
  have riq13 : I57 q13 = il [] := by rw [eI57, va_up_ne _ _ (g57.ne mq13)]; exact riq13
  have kq13 := g57.role mq13 kq13
  have mq13 := g57.mem mq13
  have rrq15 : R57 q15 = rl [(1, q13), (0, q10), (6, z16_q7), (3, z16_q3), (2, z16_q1)] := by rw [eR57, va_up_ne _ _ (g57.ne mq15)]; exact rrq15
  have riq15 : I57 q15 = il [(5, 0), (4, 0)] := by rw [eI57, va_up_ne _ _ (g57.ne mq15)]; exact riq15
  have kq15 := g57.role mq15 kq15
  have mq15 := g57.mem mq15
  have mq57 := g57.new
  have kq57 := g57.at
  have al := al.new g57 eI57
  have z0 := z0.new g57 eI57 eJ57
  have ow0 := ow0.new g57 eR57
  have nl := nl.push g57
  have rrq57 : R57 q57 = rl [] := by rw [eR57, va_up_self]; rfl
  have riq57 : I57 q57 = il [] := by rw [eI57, va_up_self]; rfl
  have kk := kk.new g57 eI57 eR57 zz_23 zr_23 (Or.inl rfl) (by decide)
  have old := old.new g57 eI57 eJ57 eR57
  have oldB := oldB.new g57 eI57 eJ57 eR57
  refine lv_dup hx hb dX10_init_153 rfl ?_
  refine afA (va_runI (As := []) (rest := [.ref q57, .int 10, .ref q13]) ⟨hx, hb, hml, hown, hts⟩ (c_X7_init kk mq57 kq57 riq57 rrq57 z0 ow0) ⟨callB_of 0 hts (wG_code kc_yX7_init) rfl rfl rfl (hts _ kini_X7) (hts _ km_X10_77) ⟨by decide, by decide, by decide +kernel⟩ ⟨by decide, by decide⟩, rfl, hts _ ki_yX7_init⟩ (preS hH) rfl rfl hl.1 rfl (lv_room (Nat.le_of_ble_eq_true rfl)) dX10_init_154 ⟨by decide, by decide⟩) hH (fun L58 C58 I58 J58 R58 H locs hp hH => ?_)
  obtain ⟨kk, od58, kq58, z0, ow0, nw58⟩ := hp
  have ne58 : a0 ≠ q57 := ne_role ka0 kq57 (by decide)
  have rra0 : R58 a0 = rl [(8, q24), (7, q21), (6, q18), (5, q15), (4, q13), (3, q10), (2, q7), (1, q4), (0, q1)] := ((od58 a0 ma0).2 ne58).2.2.2.trans rra0
  have ria0 : I58 a0 = il [] := ((od58 a0 ma0).2 ne58).2.1.trans ria0
  have ka0 : C58 a0 = 26 := ((od58 a0 ma0).2 ne58).1.trans ka0
  have ma0 := (od58 a0 ma0).1
  have ne58 : q13 ≠ q57 := ne_role kq13 kq57 (by decide)
  have rrq13 : R58 q13 = rl [(9, q54), (8, q51), (7, q48), (6, q45), (5, q42), (4, q39), (3, q36), (2, q33), (1, q30), (0, q27)] := ((od58 q13 mq13).2 ne58).2.2.2.trans rrq13
  have riq13 : I58 q13 = il [] := ((od58 q13 mq13).2 ne58).2.1.trans riq13
  have kq13 : C58 q13 = 60 := ((od58 q13 mq13).2 ne58).1.trans kq13
  have mq13 := (od58 q13 mq13).1
  have ne58 : q15 ≠ q57 := ne_role kq15 kq57 (by decide)
  have rrq15 : R58 q15 = rl [(1, q13), (0, q10), (6, z16_q7), (3, z16_q3), (2, z16_q1)] := ((od58 q15 mq15).2 ne58).2.2.2.trans rrq15
  have riq15 : I58 q15 = il [(5, 0), (4, 0)] := ((od58 q15 mq15).2 ne58).2.1.trans riq15
  have kq15 : C58 q15 = 25 := ((od58 q15 mq15).2 ne58).1.trans kq15
  have mq15 := (od58 q15 mq15).1
  have al := al.old od58 kq57 rfl
  have kq57 : C58 q57 = 7 := kq58
  have mq57 := (od58 q57 mq57).1
  have old := old.ctor od58 nq57
  have oldB := oldB.ctor od58 n2q57
  have nl := nl.old od58
  have al := al.con0 mq57 kq57 rfl
  have kk : KK L58 C58 I58 R58 [0, 1, 2, 3, 4, 5, 6, 7, 8, 16, 17, 18, 19, 20, 21, 22, 23, 24, 25, 26, 32, 33, 34, 35, 36, 37, 38, 39, 40, 41, 42, 43, 44, 45, 46, 47, 48, 49, 50, 51, 52, 53, 54, 55, 56, 58, 59, 60] := kk.wS rfl
  have mq57 : q57 ∈ L58 := (al.at (i := 0) rfl).1
  have kq57 : C58 q57 = 7 := (al.at (i := 0) rfl).2
  refine st_60 hx hb hH mq13 kq13 (Rg_in (Rg_c (x := 10) (a := 10) (b := 10) (by decide)) (by decide)) mq57 kq57 rfl dX10_init_157 (fun R59 H locs eR59 hH => ?_)
  have rra0 : R59 a0 = rl [(8, q24), (7, q21), (6, q18), (5, q15), (4, q13), (3, q10), (2, q7), (1, q4), (0, q1)] := by rw [eR59, u2_ne (ne_role ka0 kq13 (by decide))]; exact rra0
  have rrq15 : R59 q15 = rl [(1, q13), (0, q10), (6, z16_q7), (3, z16_q3), (2, z16_q1)] := by rw [eR59, u2_ne (ne_role kq15 kq13 (by decide))]; exact rrq15
  have rrq13 : R59 q13 = rl [(10, q57), (9, q54), (8, q51), (7, q48), (6, q45), (5, q42), (4, q39), (3, q36), (2, q33), (1, q30), (0, q27)] := by rw [eR59]; exact rl_put rrq13
  have kk : KK L58 C58 I58 R59 [0, 1, 2, 3, 4, 5, 6, 7, 8, 16, 17, 18, 19, 20, 21, 22, 23, 24, 25, 26, 32, 33, 34, 35, 36, 37, 38, 39, 40, 41, 42, 43, 44, 45, 46, 47, 48, 49, 50, 51, 52, 53, 54, 55, 56, 58, 59, 60] := by rw [eR59]; exact kk.stR kq13 zr_60
  have old : Old L0 C0 (I0, J0, R0) a0 L58 C58 I58 J58 R59 := by rw [eR59]; exact old.stR (Or.inr nq13)
  have oldB : Old L28 C28 (I28, J28, R28) q13 L58 C58 I58 J58 R59 := by rw [eR59]; exact oldB.stR (Or.inl rfl)
  have ow0 := ow0.stR kq13 rfl eR59
  refine lv_iinc (v := 11) (lv' := [(1, .int 11), (0, .ref a0)]) hx hb dX10_init_158 hl (k := 0) rfl (by decide) (by decide) rfl (fun ls hl => ?_)
  refine lv_goto (tgt := 139) hx hb dX10_init_161 (by decide) ?_
  refine lv_iload_n hx hb dX10_init_139 rfl (lv_at hl 0 rfl) ?_
  refine lv_bipush (v := 20) hx hb dX10_init_140 (by decide) ?_
  refine lv_icmp_ge (tgt := 164) hx hb dX10_init_142 (by decide) (fun q => absurd q (by decide)) (fun q => ?_)
  refine lv_aload_n hx hb dX10_init_145 rfl (lv_at hl 1 rfl) ?_
  refine gf_10_4 (b := q13) (by rw [rra0]; rfl) hx hb hts hown hH ma0 ka0 rfl kf_X10_41 dX10_init_146 ?_
  refine lv_iload_n hx hb dX10_init_149 rfl (lv_at hl 0 rfl) ?_
  refine hNew (ci := 7) (N := 2) hx hb hts hown hH inX7 tyX7_ok rfl (by decide) rfl df_7 kcl_X10_39 kinst_X7 kini_X7 (by decide) (by decide) dX10_init_150 (fun q60 L60 C60 I60 J60 R60 H g60 eI60 eJ60 eR60 hH => ?_)
  have nq60 : q60 ∉ L0 := fun h => g60.2.2 (old q60 h).1
  have n2q60 : q60 ∉ L28 := fun h => g60.2.2 (oldB q60 h).1
  have rra0 : R60 a0 = rl [(8, q24), (7, q21), (6, q18), (5, q15), (4, q13), (3, q10), (2, q7), (1, q4), (0, q1)] := by rw [eR60, va_up_ne _ _ (g60.ne ma0)]; exact rra0
  have ria0 : I60 a0 = il [] := by rw [eI60, va_up_ne _ _ (g60.ne ma0)]; exact ria0
  have ka0 := g60.role ma0 ka0
  have ma0 := g60.mem ma0
  have rrq13 : R60 q13 = rl [(10, q57), (9, q54), (8, q51), (7, q48), (6, q45), (5, q42), (4, q39), (3, q36), (2, q33), (1, q30), (0, q27)] := by rw [eR60, va_up_ne _ _ (g60.ne mq13)]; exact rrq13
  have riq13 : I60 q13 = il [] := by rw [eI60, va_up_ne _ _ (g60.ne mq13)]; exact riq13
  have kq13 := g60.role mq13 kq13
  have mq13 := g60.mem mq13
  have rrq15 : R60 q15 = rl [(1, q13), (0, q10), (6, z16_q7), (3, z16_q3), (2, z16_q1)] := by rw [eR60, va_up_ne _ _ (g60.ne mq15)]; exact rrq15
  have riq15 : I60 q15 = il [(5, 0), (4, 0)] := by rw [eI60, va_up_ne _ _ (g60.ne mq15)]; exact riq15
  have kq15 := g60.role mq15 kq15
  have mq15 := g60.mem mq15
  have mq60 := g60.new
  have kq60 := g60.at
  have al := al.new g60 eI60
  have z0 := z0.new g60 eI60 eJ60
  have ow0 := ow0.new g60 eR60
  have nl := nl.push g60
  have rrq60 : R60 q60 = rl [] := by rw [eR60, va_up_self]; rfl
  have riq60 : I60 q60 = il [] := by rw [eI60, va_up_self]; rfl
  have kk := kk.new g60 eI60 eR60 zz_23 zr_23 (Or.inl rfl) (by decide)
  have old := old.new g60 eI60 eJ60 eR60
  have oldB := oldB.new g60 eI60 eJ60 eR60
  refine lv_dup hx hb dX10_init_153 rfl ?_
  refine afA (va_runI (As := []) (rest := [.ref q60, .int 11, .ref q13]) ⟨hx, hb, hml, hown, hts⟩ (c_X7_init kk mq60 kq60 riq60 rrq60 z0 ow0) ⟨callB_of 0 hts (wG_code kc_yX7_init) rfl rfl rfl (hts _ kini_X7) (hts _ km_X10_77) ⟨by decide, by decide, by decide +kernel⟩ ⟨by decide, by decide⟩, rfl, hts _ ki_yX7_init⟩ (preS hH) rfl rfl hl.1 rfl (lv_room (Nat.le_of_ble_eq_true rfl)) dX10_init_154 ⟨by decide, by decide⟩) hH (fun L61 C61 I61 J61 R61 H locs hp hH => ?_)
  obtain ⟨kk, od61, kq61, z0, ow0, nw61⟩ := hp
  have ne61 : a0 ≠ q60 := ne_role ka0 kq60 (by decide)
  have rra0 : R61 a0 = rl [(8, q24), (7, q21), (6, q18), (5, q15), (4, q13), (3, q10), (2, q7), (1, q4), (0, q1)] := ((od61 a0 ma0).2 ne61).2.2.2.trans rra0
  have ria0 : I61 a0 = il [] := ((od61 a0 ma0).2 ne61).2.1.trans ria0
  have ka0 : C61 a0 = 26 := ((od61 a0 ma0).2 ne61).1.trans ka0
  have ma0 := (od61 a0 ma0).1
  have ne61 : q13 ≠ q60 := ne_role kq13 kq60 (by decide)
  have rrq13 : R61 q13 = rl [(10, q57), (9, q54), (8, q51), (7, q48), (6, q45), (5, q42), (4, q39), (3, q36), (2, q33), (1, q30), (0, q27)] := ((od61 q13 mq13).2 ne61).2.2.2.trans rrq13
  have riq13 : I61 q13 = il [] := ((od61 q13 mq13).2 ne61).2.1.trans riq13
  have kq13 : C61 q13 = 60 := ((od61 q13 mq13).2 ne61).1.trans kq13
  have mq13 := (od61 q13 mq13).1
  have ne61 : q15 ≠ q60 := ne_role kq15 kq60 (by decide)
  have rrq15 : R61 q15 = rl [(1, q13), (0, q10), (6, z16_q7), (3, z16_q3), (2, z16_q1)] := ((od61 q15 mq15).2 ne61).2.2.2.trans rrq15
  have riq15 : I61 q15 = il [(5, 0), (4, 0)] := ((od61 q15 mq15).2 ne61).2.1.trans riq15
  have kq15 : C61 q15 = 25 := ((od61 q15 mq15).2 ne61).1.trans kq15
  have mq15 := (od61 q15 mq15).1
  have al := al.old od61 kq60 rfl
  have kq60 : C61 q60 = 7 := kq61
  have mq60 := (od61 q60 mq60).1
  have old := old.ctor od61 nq60
  have oldB := oldB.ctor od61 n2q60
  have nl := nl.old od61
  have al := al.con0 mq60 kq60 rfl
  have kk : KK L61 C61 I61 R61 [0, 1, 2, 3, 4, 5, 6, 7, 8, 16, 17, 18, 19, 20, 21, 22, 23, 24, 25, 26, 32, 33, 34, 35, 36, 37, 38, 39, 40, 41, 42, 43, 44, 45, 46, 47, 48, 49, 50, 51, 52, 53, 54, 55, 56, 58, 59, 60] := kk.wS rfl
  have mq60 : q60 ∈ L61 := (al.at (i := 0) rfl).1
  have kq60 : C61 q60 = 7 := (al.at (i := 0) rfl).2
  refine st_60 hx hb hH mq13 kq13 (Rg_in (Rg_c (x := 11) (a := 11) (b := 11) (by decide)) (by decide)) mq60 kq60 rfl dX10_init_157 (fun R62 H locs eR62 hH => ?_)
  have rra0 : R62 a0 = rl [(8, q24), (7, q21), (6, q18), (5, q15), (4, q13), (3, q10), (2, q7), (1, q4), (0, q1)] := by rw [eR62, u2_ne (ne_role ka0 kq13 (by decide))]; exact rra0
  have rrq15 : R62 q15 = rl [(1, q13), (0, q10), (6, z16_q7), (3, z16_q3), (2, z16_q1)] := by rw [eR62, u2_ne (ne_role kq15 kq13 (by decide))]; exact rrq15
  have rrq13 : R62 q13 = rl [(11, q60), (10, q57), (9, q54), (8, q51), (7, q48), (6, q45), (5, q42), (4, q39), (3, q36), (2, q33), (1, q30), (0, q27)] := by rw [eR62]; exact rl_put rrq13
  have kk : KK L61 C61 I61 R62 [0, 1, 2, 3, 4, 5, 6, 7, 8, 16, 17, 18, 19, 20, 21, 22, 23, 24, 25, 26, 32, 33, 34, 35, 36, 37, 38, 39, 40, 41, 42, 43, 44, 45, 46, 47, 48, 49, 50, 51, 52, 53, 54, 55, 56, 58, 59, 60] := by rw [eR62]; exact kk.stR kq13 zr_60
  have old : Old L0 C0 (I0, J0, R0) a0 L61 C61 I61 J61 R62 := by rw [eR62]; exact old.stR (Or.inr nq13)
  have oldB : Old L28 C28 (I28, J28, R28) q13 L61 C61 I61 J61 R62 := by rw [eR62]; exact oldB.stR (Or.inl rfl)
  have ow0 := ow0.stR kq13 rfl eR62
  refine lv_iinc (v := 12) (lv' := [(1, .int 12), (0, .ref a0)]) hx hb dX10_init_158 hl (k := 0) rfl (by decide) (by decide) rfl (fun ls hl => ?_)
  refine lv_goto (tgt := 139) hx hb dX10_init_161 (by decide) ?_
  refine lv_iload_n hx hb dX10_init_139 rfl (lv_at hl 0 rfl) ?_
  refine lv_bipush (v := 20) hx hb dX10_init_140 (by decide) ?_
  refine lv_icmp_ge (tgt := 164) hx hb dX10_init_142 (by decide) (fun q => absurd q (by decide)) (fun q => ?_)
  refine lv_aload_n hx hb dX10_init_145 rfl (lv_at hl 1 rfl) ?_
  refine gf_10_4 (b := q13) (by rw [rra0]; rfl) hx hb hts hown hH ma0 ka0 rfl kf_X10_41 dX10_init_146 ?_
  refine lv_iload_n hx hb dX10_init_149 rfl (lv_at hl 0 rfl) ?_
  refine hNew (ci := 7) (N := 2) hx hb hts hown hH inX7 tyX7_ok rfl (by decide) rfl df_7 kcl_X10_39 kinst_X7 kini_X7 (by decide) (by decide) dX10_init_150 (fun q63 L63 C63 I63 J63 R63 H g63 eI63 eJ63 eR63 hH => ?_)
  have nq63 : q63 ∉ L0 := fun h => g63.2.2 (old q63 h).1
  have n2q63 : q63 ∉ L28 := fun h => g63.2.2 (oldB q63 h).1
  have rra0 : R63 a0 = rl [(8, q24), (7, q21), (6, q18), (5, q15), (4, q13), (3, q10), (2, q7), (1, q4), (0, q1)] := by rw [eR63, va_up_ne _ _ (g63.ne ma0)]; exact rra0
  have ria0 : I63 a0 = il [] := by rw [eI63, va_up_ne _ _ (g63.ne ma0)]; exact ria0
  have ka0 := g63.role ma0 ka0
  have ma0 := g63.mem ma0
  have rrq13 : R63 q13 = rl [(11, q60), (10, q57), (9, q54), (8, q51), (7, q48), (6, q45), (5, q42), (4, q39), (3, q36), (2, q33), (1, q30), (0, q27)] := by rw [eR63, va_up_ne _ _ (g63.ne mq13)]; exact rrq13
  have riq13 : I63 q13 = il [] := by rw [eI63, va_up_ne _ _ (g63.ne mq13)]; exact riq13
  have kq13 := g63.role mq13 kq13
  have mq13 := g63.mem mq13
  have rrq15 : R63 q15 = rl [(1, q13), (0, q10), (6, z16_q7), (3, z16_q3), (2, z16_q1)] := by rw [eR63, va_up_ne _ _ (g63.ne mq15)]; exact rrq15
  have riq15 : I63 q15 = il [(5, 0), (4, 0)] := by rw [eI63, va_up_ne _ _ (g63.ne mq15)]; exact riq15
  have kq15 := g63.role mq15 kq15
  have mq15 := g63.mem mq15
  have mq63 := g63.new
  have kq63 := g63.at
  have al := al.new g63 eI63
  have z0 := z0.new g63 eI63 eJ63
  have ow0 := ow0.new g63 eR63
  have nl := nl.push g63
  have rrq63 : R63 q63 = rl [] := by rw [eR63, va_up_self]; rfl
  have riq63 : I63 q63 = il [] := by rw [eI63, va_up_self]; rfl
  have kk := kk.new g63 eI63 eR63 zz_23 zr_23 (Or.inl rfl) (by decide)
  have old := old.new g63 eI63 eJ63 eR63
  have oldB := oldB.new g63 eI63 eJ63 eR63
  refine lv_dup hx hb dX10_init_153 rfl ?_
  refine afA (va_runI (As := []) (rest := [.ref q63, .int 12, .ref q13]) ⟨hx, hb, hml, hown, hts⟩ (c_X7_init kk mq63 kq63 riq63 rrq63 z0 ow0) ⟨callB_of 0 hts (wG_code kc_yX7_init) rfl rfl rfl (hts _ kini_X7) (hts _ km_X10_77) ⟨by decide, by decide, by decide +kernel⟩ ⟨by decide, by decide⟩, rfl, hts _ ki_yX7_init⟩ (preS hH) rfl rfl hl.1 rfl (lv_room (Nat.le_of_ble_eq_true rfl)) dX10_init_154 ⟨by decide, by decide⟩) hH (fun L64 C64 I64 J64 R64 H locs hp hH => ?_)
  obtain ⟨kk, od64, kq64, z0, ow0, nw64⟩ := hp
  have ne64 : a0 ≠ q63 := ne_role ka0 kq63 (by decide)
  have rra0 : R64 a0 = rl [(8, q24), (7, q21), (6, q18), (5, q15), (4, q13), (3, q10), (2, q7), (1, q4), (0, q1)] := ((od64 a0 ma0).2 ne64).2.2.2.trans rra0
  have ria0 : I64 a0 = il [] := ((od64 a0 ma0).2 ne64).2.1.trans ria0
  have ka0 : C64 a0 = 26 := ((od64 a0 ma0).2 ne64).1.trans ka0
  have ma0 := (od64 a0 ma0).1
  have ne64 : q13 ≠ q63 := ne_role kq13 kq63 (by decide)
  have rrq13 : R64 q13 = rl [(11, q60), (10, q57), (9, q54), (8, q51), (7, q48), (6, q45), (5, q42), (4, q39), (3, q36), (2, q33), (1, q30), (0, q27)] := ((od64 q13 mq13).2 ne64).2.2.2.trans rrq13
  have riq13 : I64 q13 = il [] := ((od64 q13 mq13).2 ne64).2.1.trans riq13
  have kq13 : C64 q13 = 60 := ((od64 q13 mq13).2 ne64).1.trans kq13
  have mq13 := (od64 q13 mq13).1
  have ne64 : q15 ≠ q63 := ne_role kq15 kq63 (by decide)
  have rrq15 : R64 q15 = rl [(1, q13), (0, q10), (6, z16_q7), (3, z16_q3), (2, z16_q1)] := ((od64 q15 mq15).2 ne64).2.2.2.trans rrq15
  have riq15 : I64 q15 = il [(5, 0), (4, 0)] := ((od64 q15 mq15).2 ne64).2.1.trans riq15
  have kq15 : C64 q15 = 25 := ((od64 q15 mq15).2 ne64).1.trans kq15
  have mq15 := (od64 q15 mq15).1
  have al := al.old od64 kq63 rfl
  have kq63 : C64 q63 = 7 := kq64
  have mq63 := (od64 q63 mq63).1
  have old := old.ctor od64 nq63
  have oldB := oldB.ctor od64 n2q63
  have nl := nl.old od64
  have al := al.con0 mq63 kq63 rfl
  have kk : KK L64 C64 I64 R64 [0, 1, 2, 3, 4, 5, 6, 7, 8, 16, 17, 18, 19, 20, 21, 22, 23, 24, 25, 26, 32, 33, 34, 35, 36, 37, 38, 39, 40, 41, 42, 43, 44, 45, 46, 47, 48, 49, 50, 51, 52, 53, 54, 55, 56, 58, 59, 60] := kk.wS rfl
  have mq63 : q63 ∈ L64 := (al.at (i := 0) rfl).1
  have kq63 : C64 q63 = 7 := (al.at (i := 0) rfl).2
  refine st_60 hx hb hH mq13 kq13 (Rg_in (Rg_c (x := 12) (a := 12) (b := 12) (by decide)) (by decide)) mq63 kq63 rfl dX10_init_157 (fun R65 H locs eR65 hH => ?_)
  have rra0 : R65 a0 = rl [(8, q24), (7, q21), (6, q18), (5, q15), (4, q13), (3, q10), (2, q7), (1, q4), (0, q1)] := by rw [eR65, u2_ne (ne_role ka0 kq13 (by decide))]; exact rra0
  have rrq15 : R65 q15 = rl [(1, q13), (0, q10), (6, z16_q7), (3, z16_q3), (2, z16_q1)] := by rw [eR65, u2_ne (ne_role kq15 kq13 (by decide))]; exact rrq15
  have rrq13 : R65 q13 = rl [(12, q63), (11, q60), (10, q57), (9, q54), (8, q51), (7, q48), (6, q45), (5, q42), (4, q39), (3, q36), (2, q33), (1, q30), (0, q27)] := by rw [eR65]; exact rl_put rrq13
  have kk : KK L64 C64 I64 R65 [0, 1, 2, 3, 4, 5, 6, 7, 8, 16, 17, 18, 19, 20, 21, 22, 23, 24, 25, 26, 32, 33, 34, 35, 36, 37, 38, 39, 40, 41, 42, 43, 44, 45, 46, 47, 48, 49, 50, 51, 52, 53, 54, 55, 56, 58, 59, 60] := by rw [eR65]; exact kk.stR kq13 zr_60
  have old : Old L0 C0 (I0, J0, R0) a0 L64 C64 I64 J64 R65 := by rw [eR65]; exact old.stR (Or.inr nq13)
  have oldB : Old L28 C28 (I28, J28, R28) q13 L64 C64 I64 J64 R65 := by rw [eR65]; exact oldB.stR (Or.inl rfl)
  have ow0 := ow0.stR kq13 rfl eR65
  refine lv_iinc (v := 13) (lv' := [(1, .int 13), (0, .ref a0)]) hx hb dX10_init_158 hl (k := 0) rfl (by decide) (by decide) rfl (fun ls hl => ?_)
  refine lv_goto (tgt := 139) hx hb dX10_init_161 (by decide) ?_
  refine lv_iload_n hx hb dX10_init_139 rfl (lv_at hl 0 rfl) ?_
  refine lv_bipush (v := 20) hx hb dX10_init_140 (by decide) ?_
  refine lv_icmp_ge (tgt := 164) hx hb dX10_init_142 (by decide) (fun q => absurd q (by decide)) (fun q => ?_)
  refine lv_aload_n hx hb dX10_init_145 rfl (lv_at hl 1 rfl) ?_
  refine gf_10_4 (b := q13) (by rw [rra0]; rfl) hx hb hts hown hH ma0 ka0 rfl kf_X10_41 dX10_init_146 ?_
  refine lv_iload_n hx hb dX10_init_149 rfl (lv_at hl 0 rfl) ?_
  refine hNew (ci := 7) (N := 2) hx hb hts hown hH inX7 tyX7_ok rfl (by decide) rfl df_7 kcl_X10_39 kinst_X7 kini_X7 (by decide) (by decide) dX10_init_150 (fun q66 L66 C66 I66 J66 R66 H g66 eI66 eJ66 eR66 hH => ?_)
  have nq66 : q66 ∉ L0 := fun h => g66.2.2 (old q66 h).1
  have n2q66 : q66 ∉ L28 := fun h => g66.2.2 (oldB q66 h).1
  have rra0 : R66 a0 = rl [(8, q24), (7, q21), (6, q18), (5, q15), (4, q13), (3, q10), (2, q7), (1, q4), (0, q1)] := by rw [eR66, va_up_ne _ _ (g66.ne ma0)]; exact rra0
  have ria0 : I66 a0 = il [] := by rw [eI66, va_up_ne _ _ (g66.ne ma0)]; exact ria0
  have ka0 := g66.role ma0 ka0
  have ma0 := g66.mem ma0
  have rrq13 : R66 q13 = rl [(12, q63), (11, q60), (10, q57), (9, q54), (8, q51), (7, q48), (6, q45), (5, q42), (4, q39), (3, q36), (2, q33), (1, q30), (0, q27)] := by rw [eR66, va_up_ne _ _ (g66.ne mq13)]; exact rrq13
  have riq13 : I66 q13 = il [] := by rw [eI66, va_up_ne _ _ (g66.ne mq13)]; exact riq13
  have kq13 := g66.role mq13 kq13
  have mq13 := g66.mem mq13
  have rrq15 : R66 q15 = rl [(1, q13), (0, q10), (6, z16_q7), (3, z16_q3), (2, z16_q1)] := by rw [eR66, va_up_ne _ _ (g66.ne mq15)]; exact rrq15
  have riq15 : I66 q15 = il [(5, 0), (4, 0)] := by rw [eI66, va_up_ne _ _ (g66.ne mq15)]; exact riq15
  have kq15 := g66.role mq15 kq15
  have mq15 := g66.mem mq15
  have mq66 := g66.new
  have kq66 := g66.at
  have al := al.new g66 eI66
  have z0 := z0.new g66 eI66 eJ66
  have ow0 := ow0.new g66 eR66
  have nl := nl.push g66
  have rrq66 : R66 q66 = rl [] := by rw [eR66, va_up_self]; rfl
  have riq66 : I66 q66 = il [] := by rw [eI66, va_up_self]; rfl
  have kk := kk.new g66 eI66 eR66 zz_23 zr_23 (Or.inl rfl) (by decide)
  have old := old.new g66 eI66 eJ66 eR66
  have oldB := oldB.new g66 eI66 eJ66 eR66
  refine lv_dup hx hb dX10_init_153 rfl ?_
  refine afA (va_runI (As := []) (rest := [.ref q66, .int 13, .ref q13]) ⟨hx, hb, hml, hown, hts⟩ (c_X7_init kk mq66 kq66 riq66 rrq66 z0 ow0) ⟨callB_of 0 hts (wG_code kc_yX7_init) rfl rfl rfl (hts _ kini_X7) (hts _ km_X10_77) ⟨by decide, by decide, by decide +kernel⟩ ⟨by decide, by decide⟩, rfl, hts _ ki_yX7_init⟩ (preS hH) rfl rfl hl.1 rfl (lv_room (Nat.le_of_ble_eq_true rfl)) dX10_init_154 ⟨by decide, by decide⟩) hH (fun L67 C67 I67 J67 R67 H locs hp hH => ?_)
  obtain ⟨kk, od67, kq67, z0, ow0, nw67⟩ := hp
  have ne67 : a0 ≠ q66 := ne_role ka0 kq66 (by decide)
  have rra0 : R67 a0 = rl [(8, q24), (7, q21), (6, q18), (5, q15), (4, q13), (3, q10), (2, q7), (1, q4), (0, q1)] := ((od67 a0 ma0).2 ne67).2.2.2.trans rra0
  have ria0 : I67 a0 = il [] := ((od67 a0 ma0).2 ne67).2.1.trans ria0
  have ka0 : C67 a0 = 26 := ((od67 a0 ma0).2 ne67).1.trans ka0
  have ma0 := (od67 a0 ma0).1
  have ne67 : q13 ≠ q66 := ne_role kq13 kq66 (by decide)
  have rrq13 : R67 q13 = rl [(12, q63), (11, q60), (10, q57), (9, q54), (8, q51), (7, q48), (6, q45), (5, q42), (4, q39), (3, q36), (2, q33), (1, q30), (0, q27)] := ((od67 q13 mq13).2 ne67).2.2.2.trans rrq13
  have riq13 : I67 q13 = il [] := ((od67 q13 mq13).2 ne67).2.1.trans riq13
  have kq13 : C67 q13 = 60 := ((od67 q13 mq13).2 ne67).1.trans kq13
  have mq13 := (od67 q13 mq13).1
  have ne67 : q15 ≠ q66 := ne_role kq15 kq66 (by decide)
  have rrq15 : R67 q15 = rl [(1, q13), (0, q10), (6, z16_q7), (3, z16_q3), (2, z16_q1)] := ((od67 q15 mq15).2 ne67).2.2.2.trans rrq15
  have riq15 : I67 q15 = il [(5, 0), (4, 0)] := ((od67 q15 mq15).2 ne67).2.1.trans riq15
  have kq15 : C67 q15 = 25 := ((od67 q15 mq15).2 ne67).1.trans kq15
  have mq15 := (od67 q15 mq15).1
  have al := al.old od67 kq66 rfl
  have kq66 : C67 q66 = 7 := kq67
  have mq66 := (od67 q66 mq66).1
  have old := old.ctor od67 nq66
  have oldB := oldB.ctor od67 n2q66
  have nl := nl.old od67
  have al := al.con0 mq66 kq66 rfl
  have kk : KK L67 C67 I67 R67 [0, 1, 2, 3, 4, 5, 6, 7, 8, 16, 17, 18, 19, 20, 21, 22, 23, 24, 25, 26, 32, 33, 34, 35, 36, 37, 38, 39, 40, 41, 42, 43, 44, 45, 46, 47, 48, 49, 50, 51, 52, 53, 54, 55, 56, 58, 59, 60] := kk.wS rfl
  have mq66 : q66 ∈ L67 := (al.at (i := 0) rfl).1
  have kq66 : C67 q66 = 7 := (al.at (i := 0) rfl).2
  refine st_60 hx hb hH mq13 kq13 (Rg_in (Rg_c (x := 13) (a := 13) (b := 13) (by decide)) (by decide)) mq66 kq66 rfl dX10_init_157 (fun R68 H locs eR68 hH => ?_)
  have rra0 : R68 a0 = rl [(8, q24), (7, q21), (6, q18), (5, q15), (4, q13), (3, q10), (2, q7), (1, q4), (0, q1)] := by rw [eR68, u2_ne (ne_role ka0 kq13 (by decide))]; exact rra0
  have rrq15 : R68 q15 = rl [(1, q13), (0, q10), (6, z16_q7), (3, z16_q3), (2, z16_q1)] := by rw [eR68, u2_ne (ne_role kq15 kq13 (by decide))]; exact rrq15
  have rrq13 : R68 q13 = rl [(13, q66), (12, q63), (11, q60), (10, q57), (9, q54), (8, q51), (7, q48), (6, q45), (5, q42), (4, q39), (3, q36), (2, q33), (1, q30), (0, q27)] := by rw [eR68]; exact rl_put rrq13
  have kk : KK L67 C67 I67 R68 [0, 1, 2, 3, 4, 5, 6, 7, 8, 16, 17, 18, 19, 20, 21, 22, 23, 24, 25, 26, 32, 33, 34, 35, 36, 37, 38, 39, 40, 41, 42, 43, 44, 45, 46, 47, 48, 49, 50, 51, 52, 53, 54, 55, 56, 58, 59, 60] := by rw [eR68]; exact kk.stR kq13 zr_60
  have old : Old L0 C0 (I0, J0, R0) a0 L67 C67 I67 J67 R68 := by rw [eR68]; exact old.stR (Or.inr nq13)
  have oldB : Old L28 C28 (I28, J28, R28) q13 L67 C67 I67 J67 R68 := by rw [eR68]; exact oldB.stR (Or.inl rfl)
  have ow0 := ow0.stR kq13 rfl eR68
  refine lv_iinc (v := 14) (lv' := [(1, .int 14), (0, .ref a0)]) hx hb dX10_init_158 hl (k := 0) rfl (by decide) (by decide) rfl (fun ls hl => ?_)
  refine lv_goto (tgt := 139) hx hb dX10_init_161 (by decide) ?_
  refine lv_iload_n hx hb dX10_init_139 rfl (lv_at hl 0 rfl) ?_
  refine lv_bipush (v := 20) hx hb dX10_init_140 (by decide) ?_
  refine lv_icmp_ge (tgt := 164) hx hb dX10_init_142 (by decide) (fun q => absurd q (by decide)) (fun q => ?_)
  refine lv_aload_n hx hb dX10_init_145 rfl (lv_at hl 1 rfl) ?_
  refine gf_10_4 (b := q13) (by rw [rra0]; rfl) hx hb hts hown hH ma0 ka0 rfl kf_X10_41 dX10_init_146 ?_
  refine lv_iload_n hx hb dX10_init_149 rfl (lv_at hl 0 rfl) ?_
  refine hNew (ci := 7) (N := 2) hx hb hts hown hH inX7 tyX7_ok rfl (by decide) rfl df_7 kcl_X10_39 kinst_X7 kini_X7 (by decide) (by decide) dX10_init_150 (fun q69 L69 C69 I69 J69 R69 H g69 eI69 eJ69 eR69 hH => ?_)
  have nq69 : q69 ∉ L0 := fun h => g69.2.2 (old q69 h).1
  have n2q69 : q69 ∉ L28 := fun h => g69.2.2 (oldB q69 h).1
  have rra0 : R69 a0 = rl [(8, q24), (7, q21), (6, q18), (5, q15), (4, q13), (3, q10), (2, q7), (1, q4), (0, q1)] := by rw [eR69, va_up_ne _ _ (g69.ne ma0)]; exact rra0
  have ria0 : I69 a0 = il [] := by rw [eI69, va_up_ne _ _ (g69.ne ma0)]; exact ria0
  have ka0 := g69.role ma0 ka0
  have ma0 := g69.mem ma0
  have rrq13 : R69 q13 = rl [(13, q66), (12, q63), (11, q60), (10, q57), (9, q54), (8, q51), (7, q48), (6, q45), (5, q42), (4, q39), (3, q36), (2, q33), (1, q30), (0, q27)] := by rw [eR69, va_up_ne _ _ (g69.ne mq13)]; exact rrq13
  have riq13 : I69 q13 = il [] := by rw [eI69, va_up_ne _ _ (g69.ne mq13)]; exact riq13
  have kq13 := g69.role mq13 kq13
  have mq13 := g69.mem mq13
  have rrq15 : R69 q15 = rl [(1, q13), (0, q10), (6, z16_q7), (3, z16_q3), (2, z16_q1)] := by rw [eR69, va_up_ne _ _ (g69.ne mq15)]; exact rrq15
  have riq15 : I69 q15 = il [(5, 0), (4, 0)] := by rw [eI69, va_up_ne _ _ (g69.ne mq15)]; exact riq15
  have kq15 := g69.role mq15 kq15
  have mq15 := g69.mem mq15
  have mq69 := g69.new
  have kq69 := g69.at
  have al := al.new g69 eI69
  have z0 := z0.new g69 eI69 eJ69
  have ow0 := ow0.new g69 eR69
  have nl := nl.push g69
  have rrq69 : R69 q69 = rl [] := by rw [eR69, va_up_self]; rfl
  have riq69 : I69 q69 = il [] := by rw [eI69, va_up_self]; rfl
  have kk := kk.new g69 eI69 eR69 zz_23 zr_23 (Or.inl rfl) (by decide)
  have old := old.new g69 eI69 eJ69 eR69
  have oldB := oldB.new g69 eI69 eJ69 eR69
  refine lv_dup hx hb dX10_init_153 rfl ?_
  refine afA (va_runI (As := []) (rest := [.ref q69, .int 14, .ref q13]) ⟨hx, hb, hml, hown, hts⟩ (c_X7_init kk mq69 kq69 riq69 rrq69 z0 ow0) ⟨callB_of 0 hts (wG_code kc_yX7_init) rfl rfl rfl (hts _ kini_X7) (hts _ km_X10_77) ⟨by decide, by decide, by decide +kernel⟩ ⟨by decide, by decide⟩, rfl, hts _ ki_yX7_init⟩ (preS hH) rfl rfl hl.1 rfl (lv_room (Nat.le_of_ble_eq_true rfl)) dX10_init_154 ⟨by decide, by decide⟩) hH (fun L70 C70 I70 J70 R70 H locs hp hH => ?_)
  obtain ⟨kk, od70, kq70, z0, ow0, nw70⟩ := hp
  have ne70 : a0 ≠ q69 := ne_role ka0 kq69 (by decide)
  have rra0 : R70 a0 = rl [(8, q24), (7, q21), (6, q18), (5, q15), (4, q13), (3, q10), (2, q7), (1, q4), (0, q1)] := ((od70 a0 ma0).2 ne70).2.2.2.trans rra0
  have ria0 : I70 a0 = il [] := ((od70 a0 ma0).2 ne70).2.1.trans ria0
  have ka0 : C70 a0 = 26 := ((od70 a0 ma0).2 ne70).1.trans ka0
  have ma0 := (od70 a0 ma0).1
  have ne70 : q13 ≠ q69 := ne_role kq13 kq69 (by decide)
  have rrq13 : R70 q13 = rl [(13, q66), (12, q63), (11, q60), (10, q57), (9, q54), (8, q51), (7, q48), (6, q45), (5, q42), (4, q39), (3, q36), (2, q33), (1, q30), (0, q27)] := ((od70 q13 mq13).2 ne70).2.2.2.trans rrq13
  have riq13 : I70 q13 = il [] := ((od70 q13 mq13).2 ne70).2.1.trans riq13
  have kq13 : C70 q13 = 60 := ((od70 q13 mq13).2 ne70).1.trans kq13
  have mq13 := (od70 q13 mq13).1
  have ne70 : q15 ≠ q69 := ne_role kq15 kq69 (by decide)
  have rrq15 : R70 q15 = rl [(1, q13), (0, q10), (6, z16_q7), (3, z16_q3), (2, z16_q1)] := ((od70 q15 mq15).2 ne70).2.2.2.trans rrq15
  have riq15 : I70 q15 = il [(5, 0), (4, 0)] := ((od70 q15 mq15).2 ne70).2.1.trans riq15
  have kq15 : C70 q15 = 25 := ((od70 q15 mq15).2 ne70).1.trans kq15
  have mq15 := (od70 q15 mq15).1
  have al := al.old od70 kq69 rfl
  have kq69 : C70 q69 = 7 := kq70
  have mq69 := (od70 q69 mq69).1
  have old := old.ctor od70 nq69
  have oldB := oldB.ctor od70 n2q69
  have nl := nl.old od70
  have al := al.con0 mq69 kq69 rfl
  have kk : KK L70 C70 I70 R70 [0, 1, 2, 3, 4, 5, 6, 7, 8, 16, 17, 18, 19, 20, 21, 22, 23, 24, 25, 26, 32, 33, 34, 35, 36, 37, 38, 39, 40, 41, 42, 43, 44, 45, 46, 47, 48, 49, 50, 51, 52, 53, 54, 55, 56, 58, 59, 60] := kk.wS rfl
  have mq69 : q69 ∈ L70 := (al.at (i := 0) rfl).1
  have kq69 : C70 q69 = 7 := (al.at (i := 0) rfl).2
  refine st_60 hx hb hH mq13 kq13 (Rg_in (Rg_c (x := 14) (a := 14) (b := 14) (by decide)) (by decide)) mq69 kq69 rfl dX10_init_157 (fun R71 H locs eR71 hH => ?_)
  have rra0 : R71 a0 = rl [(8, q24), (7, q21), (6, q18), (5, q15), (4, q13), (3, q10), (2, q7), (1, q4), (0, q1)] := by rw [eR71, u2_ne (ne_role ka0 kq13 (by decide))]; exact rra0
  have rrq15 : R71 q15 = rl [(1, q13), (0, q10), (6, z16_q7), (3, z16_q3), (2, z16_q1)] := by rw [eR71, u2_ne (ne_role kq15 kq13 (by decide))]; exact rrq15
  have rrq13 : R71 q13 = rl [(14, q69), (13, q66), (12, q63), (11, q60), (10, q57), (9, q54), (8, q51), (7, q48), (6, q45), (5, q42), (4, q39), (3, q36), (2, q33), (1, q30), (0, q27)] := by rw [eR71]; exact rl_put rrq13
  have kk : KK L70 C70 I70 R71 [0, 1, 2, 3, 4, 5, 6, 7, 8, 16, 17, 18, 19, 20, 21, 22, 23, 24, 25, 26, 32, 33, 34, 35, 36, 37, 38, 39, 40, 41, 42, 43, 44, 45, 46, 47, 48, 49, 50, 51, 52, 53, 54, 55, 56, 58, 59, 60] := by rw [eR71]; exact kk.stR kq13 zr_60
  have old : Old L0 C0 (I0, J0, R0) a0 L70 C70 I70 J70 R71 := by rw [eR71]; exact old.stR (Or.inr nq13)
  have oldB : Old L28 C28 (I28, J28, R28) q13 L70 C70 I70 J70 R71 := by rw [eR71]; exact oldB.stR (Or.inl rfl)
  have ow0 := ow0.stR kq13 rfl eR71
  refine lv_iinc (v := 15) (lv' := [(1, .int 15), (0, .ref a0)]) hx hb dX10_init_158 hl (k := 0) rfl (by decide) (by decide) rfl (fun ls hl => ?_)
  refine lv_goto (tgt := 139) hx hb dX10_init_161 (by decide) ?_
  refine lv_iload_n hx hb dX10_init_139 rfl (lv_at hl 0 rfl) ?_
  refine lv_bipush (v := 20) hx hb dX10_init_140 (by decide) ?_
  refine lv_icmp_ge (tgt := 164) hx hb dX10_init_142 (by decide) (fun q => absurd q (by decide)) (fun q => ?_)
  refine lv_aload_n hx hb dX10_init_145 rfl (lv_at hl 1 rfl) ?_
  refine gf_10_4 (b := q13) (by rw [rra0]; rfl) hx hb hts hown hH ma0 ka0 rfl kf_X10_41 dX10_init_146 ?_
  refine lv_iload_n hx hb dX10_init_149 rfl (lv_at hl 0 rfl) ?_
  refine hNew (ci := 7) (N := 2) hx hb hts hown hH inX7 tyX7_ok rfl (by decide) rfl df_7 kcl_X10_39 kinst_X7 kini_X7 (by decide) (by decide) dX10_init_150 (fun q72 L72 C72 I72 J72 R72 H g72 eI72 eJ72 eR72 hH => ?_)
  have nq72 : q72 ∉ L0 := fun h => g72.2.2 (old q72 h).1
  have n2q72 : q72 ∉ L28 := fun h => g72.2.2 (oldB q72 h).1
  have rra0 : R72 a0 = rl [(8, q24), (7, q21), (6, q18), (5, q15), (4, q13), (3, q10), (2, q7), (1, q4), (0, q1)] := by rw [eR72, va_up_ne _ _ (g72.ne ma0)]; exact rra0
  have ria0 : I72 a0 = il [] := by rw [eI72, va_up_ne _ _ (g72.ne ma0)]; exact ria0
  have ka0 := g72.role ma0 ka0
  have ma0 := g72.mem ma0
  have rrq13 : R72 q13 = rl [(14, q69), (13, q66), (12, q63), (11, q60), (10, q57), (9, q54), (8, q51), (7, q48), (6, q45), (5, q42), (4, q39), (3, q36), (2, q33), (1, q30), (0, q27)] := by rw [eR72, va_up_ne _ _ (g72.ne mq13)]; exact rrq13
  have riq13 : I72 q13 = il [] := by rw [eI72, va_up_ne _ _ (g72.ne mq13)]; exact riq13
  have kq13 := g72.role mq13 kq13
  have mq13 := g72.mem mq13
  have rrq15 : R72 q15 = rl [(1, q13), (0, q10), (6, z16_q7), (3, z16_q3), (2, z16_q1)] := by rw [eR72, va_up_ne _ _ (g72.ne mq15)]; exact rrq15
  have riq15 : I72 q15 = il [(5, 0), (4, 0)] := by rw [eI72, va_up_ne _ _ (g72.ne mq15)]; exact riq15
  have kq15 := g72.role mq15 kq15
  have mq15 := g72.mem mq15
  have mq72 := g72.new
  have kq72 := g72.at
  have al := al.new g72 eI72
  have z0 := z0.new g72 eI72 eJ72
  have ow0 := ow0.new g72 eR72
  have nl := nl.push g72
  have rrq72 : R72 q72 = rl [] := by rw [eR72, va_up_self]; rfl
  have riq72 : I72 q72 = il [] := by rw [eI72, va_up_self]; rfl
  have kk := kk.new g72 eI72 eR72 zz_23 zr_23 (Or.inl rfl) (by decide)
  have old := old.new g72 eI72 eJ72 eR72
  have oldB := oldB.new g72 eI72 eJ72 eR72
  refine lv_dup hx hb dX10_init_153 rfl ?_
  refine afA (va_runI (As := []) (rest := [.ref q72, .int 15, .ref q13]) ⟨hx, hb, hml, hown, hts⟩ (c_X7_init kk mq72 kq72 riq72 rrq72 z0 ow0) ⟨callB_of 0 hts (wG_code kc_yX7_init) rfl rfl rfl (hts _ kini_X7) (hts _ km_X10_77) ⟨by decide, by decide, by decide +kernel⟩ ⟨by decide, by decide⟩, rfl, hts _ ki_yX7_init⟩ (preS hH) rfl rfl hl.1 rfl (lv_room (Nat.le_of_ble_eq_true rfl)) dX10_init_154 ⟨by decide, by decide⟩) hH (fun L73 C73 I73 J73 R73 H locs hp hH => ?_)
  obtain ⟨kk, od73, kq73, z0, ow0, nw73⟩ := hp
  have ne73 : a0 ≠ q72 := ne_role ka0 kq72 (by decide)
  have rra0 : R73 a0 = rl [(8, q24), (7, q21), (6, q18), (5, q15), (4, q13), (3, q10), (2, q7), (1, q4), (0, q1)] := ((od73 a0 ma0).2 ne73).2.2.2.trans rra0
  have ria0 : I73 a0 = il [] := ((od73 a0 ma0).2 ne73).2.1.trans ria0
  have ka0 : C73 a0 = 26 := ((od73 a0 ma0).2 ne73).1.trans ka0
  have ma0 := (od73 a0 ma0).1
  have ne73 : q13 ≠ q72 := ne_role kq13 kq72 (by decide)
  have rrq13 : R73 q13 = rl [(14, q69), (13, q66), (12, q63), (11, q60), (10, q57), (9, q54), (8, q51), (7, q48), (6, q45), (5, q42), (4, q39), (3, q36), (2, q33), (1, q30), (0, q27)] := ((od73 q13 mq13).2 ne73).2.2.2.trans rrq13
  have riq13 : I73 q13 = il [] := ((od73 q13 mq13).2 ne73).2.1.trans riq13
  have kq13 : C73 q13 = 60 := ((od73 q13 mq13).2 ne73).1.trans kq13
  have mq13 := (od73 q13 mq13).1
  have ne73 : q15 ≠ q72 := ne_role kq15 kq72 (by decide)
  have rrq15 : R73 q15 = rl [(1, q13), (0, q10), (6, z16_q7), (3, z16_q3), (2, z16_q1)] := ((od73 q15 mq15).2 ne73).2.2.2.trans rrq15
  have riq15 : I73 q15 = il [(5, 0), (4, 0)] := ((od73 q15 mq15).2 ne73).2.1.trans riq15
  have kq15 : C73 q15 = 25 := ((od73 q15 mq15).2 ne73).1.trans kq15
  have mq15 := (od73 q15 mq15).1
  have al := al.old od73 kq72 rfl
  have kq72 : C73 q72 = 7 := kq73
  have mq72 := (od73 q72 mq72).1
  have old := old.ctor od73 nq72
  have oldB := oldB.ctor od73 n2q72
  have nl := nl.old od73
  have al := al.con0 mq72 kq72 rfl
  have kk : KK L73 C73 I73 R73 [0, 1, 2, 3, 4, 5, 6, 7, 8, 16, 17, 18, 19, 20, 21, 22, 23, 24, 25, 26, 32, 33, 34, 35, 36, 37, 38, 39, 40, 41, 42, 43, 44, 45, 46, 47, 48, 49, 50, 51, 52, 53, 54, 55, 56, 58, 59, 60] := kk.wS rfl
  have mq72 : q72 ∈ L73 := (al.at (i := 0) rfl).1
  have kq72 : C73 q72 = 7 := (al.at (i := 0) rfl).2
  refine st_60 hx hb hH mq13 kq13 (Rg_in (Rg_c (x := 15) (a := 15) (b := 15) (by decide)) (by decide)) mq72 kq72 rfl dX10_init_157 (fun R74 H locs eR74 hH => ?_)
  have rra0 : R74 a0 = rl [(8, q24), (7, q21), (6, q18), (5, q15), (4, q13), (3, q10), (2, q7), (1, q4), (0, q1)] := by rw [eR74, u2_ne (ne_role ka0 kq13 (by decide))]; exact rra0
  have rrq15 : R74 q15 = rl [(1, q13), (0, q10), (6, z16_q7), (3, z16_q3), (2, z16_q1)] := by rw [eR74, u2_ne (ne_role kq15 kq13 (by decide))]; exact rrq15
  have rrq13 : R74 q13 = rl [(15, q72), (14, q69), (13, q66), (12, q63), (11, q60), (10, q57), (9, q54), (8, q51), (7, q48), (6, q45), (5, q42), (4, q39), (3, q36), (2, q33), (1, q30), (0, q27)] := by rw [eR74]; exact rl_put rrq13
  have kk : KK L73 C73 I73 R74 [0, 1, 2, 3, 4, 5, 6, 7, 8, 16, 17, 18, 19, 20, 21, 22, 23, 24, 25, 26, 32, 33, 34, 35, 36, 37, 38, 39, 40, 41, 42, 43, 44, 45, 46, 47, 48, 49, 50, 51, 52, 53, 54, 55, 56, 58, 59, 60] := by rw [eR74]; exact kk.stR kq13 zr_60
  have old : Old L0 C0 (I0, J0, R0) a0 L73 C73 I73 J73 R74 := by rw [eR74]; exact old.stR (Or.inr nq13)
  have oldB : Old L28 C28 (I28, J28, R28) q13 L73 C73 I73 J73 R74 := by rw [eR74]; exact oldB.stR (Or.inl rfl)
  have ow0 := ow0.stR kq13 rfl eR74
  refine lv_iinc (v := 16) (lv' := [(1, .int 16), (0, .ref a0)]) hx hb dX10_init_158 hl (k := 0) rfl (by decide) (by decide) rfl (fun ls hl => ?_)
  refine lv_goto (tgt := 139) hx hb dX10_init_161 (by decide) ?_
  refine lv_iload_n hx hb dX10_init_139 rfl (lv_at hl 0 rfl) ?_
  refine lv_bipush (v := 20) hx hb dX10_init_140 (by decide) ?_
  refine lv_icmp_ge (tgt := 164) hx hb dX10_init_142 (by decide) (fun q => absurd q (by decide)) (fun q => ?_)
  refine lv_aload_n hx hb dX10_init_145 rfl (lv_at hl 1 rfl) ?_
  refine gf_10_4 (b := q13) (by rw [rra0]; rfl) hx hb hts hown hH ma0 ka0 rfl kf_X10_41 dX10_init_146 ?_
  refine lv_iload_n hx hb dX10_init_149 rfl (lv_at hl 0 rfl) ?_
  refine hNew (ci := 7) (N := 2) hx hb hts hown hH inX7 tyX7_ok rfl (by decide) rfl df_7 kcl_X10_39 kinst_X7 kini_X7 (by decide) (by decide) dX10_init_150 (fun q75 L75 C75 I75 J75 R75 H g75 eI75 eJ75 eR75 hH => ?_)
  have nq75 : q75 ∉ L0 := fun h => g75.2.2 (old q75 h).1
  have n2q75 : q75 ∉ L28 := fun h => g75.2.2 (oldB q75 h).1
  have rra0 : R75 a0 = rl [(8, q24), (7, q21), (6, q18), (5, q15), (4, q13), (3, q10), (2, q7), (1, q4), (0, q1)] := by rw [eR75, va_up_ne _ _ (g75.ne ma0)]; exact rra0
  have ria0 : I75 a0 = il [] := by rw [eI75, va_up_ne _ _ (g75.ne ma0)]; exact ria0
  have ka0 := g75.role ma0 ka0
  have ma0 := g75.mem ma0
  have rrq13 : R75 q13 = rl [(15, q72), (14, q69), (13, q66), (12, q63), (11, q60), (10, q57), (9, q54), (8, q51), (7, q48), (6, q45), (5, q42), (4, q39), (3, q36), (2, q33), (1, q30), (0, q27)] := by rw [eR75, va_up_ne _ _ (g75.ne mq13)]; exact rrq13
  have riq13 : I75 q13 = il [] := by rw [eI75, va_up_ne _ _ (g75.ne mq13)]; exact riq13
  have kq13 := g75.role mq13 kq13
  have mq13 := g75.mem mq13
  have rrq15 : R75 q15 = rl [(1, q13), (0, q10), (6, z16_q7), (3, z16_q3), (2, z16_q1)] := by rw [eR75, va_up_ne _ _ (g75.ne mq15)]; exact rrq15
  have riq15 : I75 q15 = il [(5, 0), (4, 0)] := by rw [eI75, va_up_ne _ _ (g75.ne mq15)]; exact riq15
  have kq15 := g75.role mq15 kq15
  have mq15 := g75.mem mq15
  have mq75 := g75.new
  have kq75 := g75.at
  have al := al.new g75 eI75
  have z0 := z0.new g75 eI75 eJ75
  have ow0 := ow0.new g75 eR75
  have nl := nl.push g75
  have rrq75 : R75 q75 = rl [] := by rw [eR75, va_up_self]; rfl
  have riq75 : I75 q75 = il [] := by rw [eI75, va_up_self]; rfl
  have kk := kk.new g75 eI75 eR75 zz_23 zr_23 (Or.inl rfl) (by decide)
  have old := old.new g75 eI75 eJ75 eR75
  have oldB := oldB.new g75 eI75 eJ75 eR75
  refine lv_dup hx hb dX10_init_153 rfl ?_
  refine afA (va_runI (As := []) (rest := [.ref q75, .int 16, .ref q13]) ⟨hx, hb, hml, hown, hts⟩ (c_X7_init kk mq75 kq75 riq75 rrq75 z0 ow0) ⟨callB_of 0 hts (wG_code kc_yX7_init) rfl rfl rfl (hts _ kini_X7) (hts _ km_X10_77) ⟨by decide, by decide, by decide +kernel⟩ ⟨by decide, by decide⟩, rfl, hts _ ki_yX7_init⟩ (preS hH) rfl rfl hl.1 rfl (lv_room (Nat.le_of_ble_eq_true rfl)) dX10_init_154 ⟨by decide, by decide⟩) hH (fun L76 C76 I76 J76 R76 H locs hp hH => ?_)
  obtain ⟨kk, od76, kq76, z0, ow0, nw76⟩ := hp
  have ne76 : a0 ≠ q75 := ne_role ka0 kq75 (by decide)
  have rra0 : R76 a0 = rl [(8, q24), (7, q21), (6, q18), (5, q15), (4, q13), (3, q10), (2, q7), (1, q4), (0, q1)] := ((od76 a0 ma0).2 ne76).2.2.2.trans rra0
  have ria0 : I76 a0 = il [] := ((od76 a0 ma0).2 ne76).2.1.trans ria0
  have ka0 : C76 a0 = 26 := ((od76 a0 ma0).2 ne76).1.trans ka0
  have ma0 := (od76 a0 ma0).1
  have ne76 : q13 ≠ q75 := ne_role kq13 kq75 (by decide)
  have rrq13 : R76 q13 = rl [(15, q72), (14, q69), (13, q66), (12, q63), (11, q60), (10, q57), (9, q54), (8, q51), (7, q48), (6, q45), (5, q42), (4, q39), (3, q36), (2, q33), (1, q30), (0, q27)] := ((od76 q13 mq13).2 ne76).2.2.2.trans rrq13
  have riq13 : I76 q13 = il [] := ((od76 q13 mq13).2 ne76).2.1.trans riq13
  have kq13 : C76 q13 = 60 := ((od76 q13 mq13).2 ne76).1.trans kq13
  have mq13 := (od76 q13 mq13).1
  have ne76 : q15 ≠ q75 := ne_role kq15 kq75 (by decide)
  have rrq15 : R76 q15 = rl [(1, q13), (0, q10), (6, z16_q7), (3, z16_q3), (2, z16_q1)] := ((od76 q15 mq15).2 ne76).2.2.2.trans rrq15
  have riq15 : I76 q15 = il [(5, 0), (4, 0)] := ((od76 q15 mq15).2 ne76).2.1.trans riq15
  have kq15 : C76 q15 = 25 := ((od76 q15 mq15).2 ne76).1.trans kq15
  have mq15 := (od76 q15 mq15).1
  have al := al.old od76 kq75 rfl
  have kq75 : C76 q75 = 7 := kq76
  have mq75 := (od76 q75 mq75).1
  have old := old.ctor od76 nq75
  have oldB := oldB.ctor od76 n2q75
  have nl := nl.old od76
  have al := al.con0 mq75 kq75 rfl
  have kk : KK L76 C76 I76 R76 [0, 1, 2, 3, 4, 5, 6, 7, 8, 16, 17, 18, 19, 20, 21, 22, 23, 24, 25, 26, 32, 33, 34, 35, 36, 37, 38, 39, 40, 41, 42, 43, 44, 45, 46, 47, 48, 49, 50, 51, 52, 53, 54, 55, 56, 58, 59, 60] := kk.wS rfl
  have mq75 : q75 ∈ L76 := (al.at (i := 0) rfl).1
  have kq75 : C76 q75 = 7 := (al.at (i := 0) rfl).2
  refine st_60 hx hb hH mq13 kq13 (Rg_in (Rg_c (x := 16) (a := 16) (b := 16) (by decide)) (by decide)) mq75 kq75 rfl dX10_init_157 (fun R77 H locs eR77 hH => ?_)
  have rra0 : R77 a0 = rl [(8, q24), (7, q21), (6, q18), (5, q15), (4, q13), (3, q10), (2, q7), (1, q4), (0, q1)] := by rw [eR77, u2_ne (ne_role ka0 kq13 (by decide))]; exact rra0
  have rrq15 : R77 q15 = rl [(1, q13), (0, q10), (6, z16_q7), (3, z16_q3), (2, z16_q1)] := by rw [eR77, u2_ne (ne_role kq15 kq13 (by decide))]; exact rrq15
  have rrq13 : R77 q13 = rl [(16, q75), (15, q72), (14, q69), (13, q66), (12, q63), (11, q60), (10, q57), (9, q54), (8, q51), (7, q48), (6, q45), (5, q42), (4, q39), (3, q36), (2, q33), (1, q30), (0, q27)] := by rw [eR77]; exact rl_put rrq13
  have kk : KK L76 C76 I76 R77 [0, 1, 2, 3, 4, 5, 6, 7, 8, 16, 17, 18, 19, 20, 21, 22, 23, 24, 25, 26, 32, 33, 34, 35, 36, 37, 38, 39, 40, 41, 42, 43, 44, 45, 46, 47, 48, 49, 50, 51, 52, 53, 54, 55, 56, 58, 59, 60] := by rw [eR77]; exact kk.stR kq13 zr_60
  have old : Old L0 C0 (I0, J0, R0) a0 L76 C76 I76 J76 R77 := by rw [eR77]; exact old.stR (Or.inr nq13)
  have oldB : Old L28 C28 (I28, J28, R28) q13 L76 C76 I76 J76 R77 := by rw [eR77]; exact oldB.stR (Or.inl rfl)
  have ow0 := ow0.stR kq13 rfl eR77
  refine lv_iinc (v := 17) (lv' := [(1, .int 17), (0, .ref a0)]) hx hb dX10_init_158 hl (k := 0) rfl (by decide) (by decide) rfl (fun ls hl => ?_)
  refine lv_goto (tgt := 139) hx hb dX10_init_161 (by decide) ?_
  refine lv_iload_n hx hb dX10_init_139 rfl (lv_at hl 0 rfl) ?_
  refine lv_bipush (v := 20) hx hb dX10_init_140 (by decide) ?_
  refine lv_icmp_ge (tgt := 164) hx hb dX10_init_142 (by decide) (fun q => absurd q (by decide)) (fun q => ?_)
  refine lv_aload_n hx hb dX10_init_145 rfl (lv_at hl 1 rfl) ?_
  refine gf_10_4 (b := q13) (by rw [rra0]; rfl) hx hb hts hown hH ma0 ka0 rfl kf_X10_41 dX10_init_146 ?_
  refine lv_iload_n hx hb dX10_init_149 rfl (lv_at hl 0 rfl) ?_
  refine hNew (ci := 7) (N := 2) hx hb hts hown hH inX7 tyX7_ok rfl (by decide) rfl df_7 kcl_X10_39 kinst_X7 kini_X7 (by decide) (by decide) dX10_init_150 (fun q78 L78 C78 I78 J78 R78 H g78 eI78 eJ78 eR78 hH => ?_)
  have nq78 : q78 ∉ L0 := fun h => g78.2.2 (old q78 h).1
  have n2q78 : q78 ∉ L28 := fun h => g78.2.2 (oldB q78 h).1
  have rra0 : R78 a0 = rl [(8, q24), (7, q21), (6, q18), (5, q15), (4, q13), (3, q10), (2, q7), (1, q4), (0, q1)] := by rw [eR78, va_up_ne _ _ (g78.ne ma0)]; exact rra0
  have ria0 : I78 a0 = il [] := by rw [eI78, va_up_ne _ _ (g78.ne ma0)]; exact ria0
  have ka0 := g78.role ma0 ka0
  have ma0 := g78.mem ma0
  have rrq13 : R78 q13 = rl [(16, q75), (15, q72), (14, q69), (13, q66), (12, q63), (11, q60), (10, q57), (9, q54), (8, q51), (7, q48), (6, q45), (5, q42), (4, q39), (3, q36), (2, q33), (1, q30), (0, q27)] := by rw [eR78, va_up_ne _ _ (g78.ne mq13)]; exact rrq13
  have riq13 : I78 q13 = il [] := by rw [eI78, va_up_ne _ _ (g78.ne mq13)]; exact riq13
  have kq13 := g78.role mq13 kq13
  have mq13 := g78.mem mq13
  have rrq15 : R78 q15 = rl [(1, q13), (0, q10), (6, z16_q7), (3, z16_q3), (2, z16_q1)] := by rw [eR78, va_up_ne _ _ (g78.ne mq15)]; exact rrq15
  have riq15 : I78 q15 = il [(5, 0), (4, 0)] := by rw [eI78, va_up_ne _ _ (g78.ne mq15)]; exact riq15
  have kq15 := g78.role mq15 kq15
  have mq15 := g78.mem mq15
  have mq78 := g78.new
  have kq78 := g78.at
  have al := al.new g78 eI78
  have z0 := z0.new g78 eI78 eJ78
  have ow0 := ow0.new g78 eR78
  have nl := nl.push g78
  have rrq78 : R78 q78 = rl [] := by rw [eR78, va_up_self]; rfl
  have riq78 : I78 q78 = il [] := by rw [eI78, va_up_self]; rfl
  have kk := kk.new g78 eI78 eR78 zz_23 zr_23 (Or.inl rfl) (by decide)
  have old := old.new g78 eI78 eJ78 eR78
  have oldB := oldB.new g78 eI78 eJ78 eR78
  refine lv_dup hx hb dX10_init_153 rfl ?_
  refine afA (va_runI (As := []) (rest := [.ref q78, .int 17, .ref q13]) ⟨hx, hb, hml, hown, hts⟩ (c_X7_init kk mq78 kq78 riq78 rrq78 z0 ow0) ⟨callB_of 0 hts (wG_code kc_yX7_init) rfl rfl rfl (hts _ kini_X7) (hts _ km_X10_77) ⟨by decide, by decide, by decide +kernel⟩ ⟨by decide, by decide⟩, rfl, hts _ ki_yX7_init⟩ (preS hH) rfl rfl hl.1 rfl (lv_room (Nat.le_of_ble_eq_true rfl)) dX10_init_154 ⟨by decide, by decide⟩) hH (fun L79 C79 I79 J79 R79 H locs hp hH => ?_)
  obtain ⟨kk, od79, kq79, z0, ow0, nw79⟩ := hp
  have ne79 : a0 ≠ q78 := ne_role ka0 kq78 (by decide)
  have rra0 : R79 a0 = rl [(8, q24), (7, q21), (6, q18), (5, q15), (4, q13), (3, q10), (2, q7), (1, q4), (0, q1)] := ((od79 a0 ma0).2 ne79).2.2.2.trans rra0
  have ria0 : I79 a0 = il [] := ((od79 a0 ma0).2 ne79).2.1.trans ria0
  have ka0 : C79 a0 = 26 := ((od79 a0 ma0).2 ne79).1.trans ka0
  have ma0 := (od79 a0 ma0).1
  have ne79 : q13 ≠ q78 := ne_role kq13 kq78 (by decide)
  have rrq13 : R79 q13 = rl [(16, q75), (15, q72), (14, q69), (13, q66), (12, q63), (11, q60), (10, q57), (9, q54), (8, q51), (7, q48), (6, q45), (5, q42), (4, q39), (3, q36), (2, q33), (1, q30), (0, q27)] := ((od79 q13 mq13).2 ne79).2.2.2.trans rrq13
  have riq13 : I79 q13 = il [] := ((od79 q13 mq13).2 ne79).2.1.trans riq13
  have kq13 : C79 q13 = 60 := ((od79 q13 mq13).2 ne79).1.trans kq13
  have mq13 := (od79 q13 mq13).1
  have ne79 : q15 ≠ q78 := ne_role kq15 kq78 (by decide)
  have rrq15 : R79 q15 = rl [(1, q13), (0, q10), (6, z16_q7), (3, z16_q3), (2, z16_q1)] := ((od79 q15 mq15).2 ne79).2.2.2.trans rrq15
  have riq15 : I79 q15 = il [(5, 0), (4, 0)] := ((od79 q15 mq15).2 ne79).2.1.trans riq15
  have kq15 : C79 q15 = 25 := ((od79 q15 mq15).2 ne79).1.trans kq15
  have mq15 := (od79 q15 mq15).1
  have al := al.old od79 kq78 rfl
  have kq78 : C79 q78 = 7 := kq79
  have mq78 := (od79 q78 mq78).1
  have old := old.ctor od79 nq78
  have oldB := oldB.ctor od79 n2q78
  have nl := nl.old od79
  have al := al.con0 mq78 kq78 rfl
  have kk : KK L79 C79 I79 R79 [0, 1, 2, 3, 4, 5, 6, 7, 8, 16, 17, 18, 19, 20, 21, 22, 23, 24, 25, 26, 32, 33, 34, 35, 36, 37, 38, 39, 40, 41, 42, 43, 44, 45, 46, 47, 48, 49, 50, 51, 52, 53, 54, 55, 56, 58, 59, 60] := kk.wS rfl
  have mq78 : q78 ∈ L79 := (al.at (i := 0) rfl).1
  have kq78 : C79 q78 = 7 := (al.at (i := 0) rfl).2
  refine st_60 hx hb hH mq13 kq13 (Rg_in (Rg_c (x := 17) (a := 17) (b := 17) (by decide)) (by decide)) mq78 kq78 rfl dX10_init_157 (fun R80 H locs eR80 hH => ?_)
  have rra0 : R80 a0 = rl [(8, q24), (7, q21), (6, q18), (5, q15), (4, q13), (3, q10), (2, q7), (1, q4), (0, q1)] := by rw [eR80, u2_ne (ne_role ka0 kq13 (by decide))]; exact rra0
  have rrq15 : R80 q15 = rl [(1, q13), (0, q10), (6, z16_q7), (3, z16_q3), (2, z16_q1)] := by rw [eR80, u2_ne (ne_role kq15 kq13 (by decide))]; exact rrq15
  have rrq13 : R80 q13 = rl [(17, q78), (16, q75), (15, q72), (14, q69), (13, q66), (12, q63), (11, q60), (10, q57), (9, q54), (8, q51), (7, q48), (6, q45), (5, q42), (4, q39), (3, q36), (2, q33), (1, q30), (0, q27)] := by rw [eR80]; exact rl_put rrq13
  have kk : KK L79 C79 I79 R80 [0, 1, 2, 3, 4, 5, 6, 7, 8, 16, 17, 18, 19, 20, 21, 22, 23, 24, 25, 26, 32, 33, 34, 35, 36, 37, 38, 39, 40, 41, 42, 43, 44, 45, 46, 47, 48, 49, 50, 51, 52, 53, 54, 55, 56, 58, 59, 60] := by rw [eR80]; exact kk.stR kq13 zr_60
  have old : Old L0 C0 (I0, J0, R0) a0 L79 C79 I79 J79 R80 := by rw [eR80]; exact old.stR (Or.inr nq13)
  have oldB : Old L28 C28 (I28, J28, R28) q13 L79 C79 I79 J79 R80 := by rw [eR80]; exact oldB.stR (Or.inl rfl)
  have ow0 := ow0.stR kq13 rfl eR80
  refine lv_iinc (v := 18) (lv' := [(1, .int 18), (0, .ref a0)]) hx hb dX10_init_158 hl (k := 0) rfl (by decide) (by decide) rfl (fun ls hl => ?_)
  refine lv_goto (tgt := 139) hx hb dX10_init_161 (by decide) ?_
  refine lv_iload_n hx hb dX10_init_139 rfl (lv_at hl 0 rfl) ?_
  refine lv_bipush (v := 20) hx hb dX10_init_140 (by decide) ?_
  refine lv_icmp_ge (tgt := 164) hx hb dX10_init_142 (by decide) (fun q => absurd q (by decide)) (fun q => ?_)
  refine lv_aload_n hx hb dX10_init_145 rfl (lv_at hl 1 rfl) ?_
  refine gf_10_4 (b := q13) (by rw [rra0]; rfl) hx hb hts hown hH ma0 ka0 rfl kf_X10_41 dX10_init_146 ?_
  refine lv_iload_n hx hb dX10_init_149 rfl (lv_at hl 0 rfl) ?_
  refine hNew (ci := 7) (N := 2) hx hb hts hown hH inX7 tyX7_ok rfl (by decide) rfl df_7 kcl_X10_39 kinst_X7 kini_X7 (by decide) (by decide) dX10_init_150 (fun q81 L81 C81 I81 J81 R81 H g81 eI81 eJ81 eR81 hH => ?_)
  have nq81 : q81 ∉ L0 := fun h => g81.2.2 (old q81 h).1
  have n2q81 : q81 ∉ L28 := fun h => g81.2.2 (oldB q81 h).1
  have rra0 : R81 a0 = rl [(8, q24), (7, q21), (6, q18), (5, q15), (4, q13), (3, q10), (2, q7), (1, q4), (0, q1)] := by rw [eR81, va_up_ne _ _ (g81.ne ma0)]; exact rra0
  have ria0 : I81 a0 = il [] := by rw [eI81, va_up_ne _ _ (g81.ne ma0)]; exact ria0
  have ka0 := g81.role ma0 ka0
  have ma0 := g81.mem ma0
  have rrq13 : R81 q13 = rl [(17, q78), (16, q75), (15, q72), (14, q69), (13, q66), (12, q63), (11, q60), (10, q57), (9, q54), (8, q51), (7, q48), (6, q45), (5, q42), (4, q39), (3, q36), (2, q33), (1, q30), (0, q27)] := by rw [eR81, va_up_ne _ _ (g81.ne mq13)]; exact rrq13
  have riq13 : I81 q13 = il [] := by rw [eI81, va_up_ne _ _ (g81.ne mq13)]; exact riq13
  have kq13 := g81.role mq13 kq13
  have mq13 := g81.mem mq13
  have rrq15 : R81 q15 = rl [(1, q13), (0, q10), (6, z16_q7), (3, z16_q3), (2, z16_q1)] := by rw [eR81, va_up_ne _ _ (g81.ne mq15)]; exact rrq15
  have riq15 : I81 q15 = il [(5, 0), (4, 0)] := by rw [eI81, va_up_ne _ _ (g81.ne mq15)]; exact riq15
  have kq15 := g81.role mq15 kq15
  have mq15 := g81.mem mq15
  have mq81 := g81.new
  have kq81 := g81.at
  have al := al.new g81 eI81
  have z0 := z0.new g81 eI81 eJ81
  have ow0 := ow0.new g81 eR81
  have nl := nl.push g81
  have rrq81 : R81 q81 = rl [] := by rw [eR81, va_up_self]; rfl
  have riq81 : I81 q81 = il [] := by rw [eI81, va_up_self]; rfl
  have kk := kk.new g81 eI81 eR81 zz_23 zr_23 (Or.inl rfl) (by decide)
  have old := old.new g81 eI81 eJ81 eR81
  have oldB := oldB.new g81 eI81 eJ81 eR81
  refine lv_dup hx hb dX10_init_153 rfl ?_
  refine afA (va_runI (As := []) (rest := [.ref q81, .int 18, .ref q13]) ⟨hx, hb, hml, hown, hts⟩ (c_X7_init kk mq81 kq81 riq81 rrq81 z0 ow0) ⟨callB_of 0 hts (wG_code kc_yX7_init) rfl rfl rfl (hts _ kini_X7) (hts _ km_X10_77) ⟨by decide, by decide, by decide +kernel⟩ ⟨by decide, by decide⟩, rfl, hts _ ki_yX7_init⟩ (preS hH) rfl rfl hl.1 rfl (lv_room (Nat.le_of_ble_eq_true rfl)) dX10_init_154 ⟨by decide, by decide⟩) hH (fun L82 C82 I82 J82 R82 H locs hp hH => ?_)
  obtain ⟨kk, od82, kq82, z0, ow0, nw82⟩ := hp
  have ne82 : a0 ≠ q81 := ne_role ka0 kq81 (by decide)
  have rra0 : R82 a0 = rl [(8, q24), (7, q21), (6, q18), (5, q15), (4, q13), (3, q10), (2, q7), (1, q4), (0, q1)] := ((od82 a0 ma0).2 ne82).2.2.2.trans rra0
  have ria0 : I82 a0 = il [] := ((od82 a0 ma0).2 ne82).2.1.trans ria0
  have ka0 : C82 a0 = 26 := ((od82 a0 ma0).2 ne82).1.trans ka0
  have ma0 := (od82 a0 ma0).1
  have ne82 : q13 ≠ q81 := ne_role kq13 kq81 (by decide)
  have rrq13 : R82 q13 = rl [(17, q78), (16, q75), (15, q72), (14, q69), (13, q66), (12, q63), (11, q60), (10, q57), (9, q54), (8, q51), (7, q48), (6, q45), (5, q42), (4, q39), (3, q36), (2, q33), (1, q30), (0, q27)] := ((od82 q13 mq13).2 ne82).2.2.2.trans rrq13
  have riq13 : I82 q13 = il [] := ((od82 q13 mq13).2 ne82).2.1.trans riq13
  have kq13 : C82 q13 = 60 := ((od82 q13 mq13).2 ne82).1.trans kq13
  have mq13 := (od82 q13 mq13).1
  have ne82 : q15 ≠ q81 := ne_role kq15 kq81 (by decide)
  have rrq15 : R82 q15 = rl [(1, q13), (0, q10), (6, z16_q7), (3, z16_q3), (2, z16_q1)] := ((od82 q15 mq15).2 ne82).2.2.2.trans rrq15
  have riq15 : I82 q15 = il [(5, 0), (4, 0)] := ((od82 q15 mq15).2 ne82).2.1.trans riq15
  have kq15 : C82 q15 = 25 := ((od82 q15 mq15).2 ne82).1.trans kq15
  have mq15 := (od82 q15 mq15).1
  have al := al.old od82 kq81 rfl
  have kq81 : C82 q81 = 7 := kq82
  have mq81 := (od82 q81 mq81).1
  have old := old.ctor od82 nq81
  have oldB := oldB.ctor od82 n2q81
  have nl := nl.old od82
  have al := al.con0 mq81 kq81 rfl
  have kk : KK L82 C82 I82 R82 [0, 1, 2, 3, 4, 5, 6, 7, 8, 16, 17, 18, 19, 20, 21, 22, 23, 24, 25, 26, 32, 33, 34, 35, 36, 37, 38, 39, 40, 41, 42, 43, 44, 45, 46, 47, 48, 49, 50, 51, 52, 53, 54, 55, 56, 58, 59, 60] := kk.wS rfl
  have mq81 : q81 ∈ L82 := (al.at (i := 0) rfl).1
  have kq81 : C82 q81 = 7 := (al.at (i := 0) rfl).2
  refine st_60 hx hb hH mq13 kq13 (Rg_in (Rg_c (x := 18) (a := 18) (b := 18) (by decide)) (by decide)) mq81 kq81 rfl dX10_init_157 (fun R83 H locs eR83 hH => ?_)
  have rra0 : R83 a0 = rl [(8, q24), (7, q21), (6, q18), (5, q15), (4, q13), (3, q10), (2, q7), (1, q4), (0, q1)] := by rw [eR83, u2_ne (ne_role ka0 kq13 (by decide))]; exact rra0
  have rrq15 : R83 q15 = rl [(1, q13), (0, q10), (6, z16_q7), (3, z16_q3), (2, z16_q1)] := by rw [eR83, u2_ne (ne_role kq15 kq13 (by decide))]; exact rrq15
  have rrq13 : R83 q13 = rl [(18, q81), (17, q78), (16, q75), (15, q72), (14, q69), (13, q66), (12, q63), (11, q60), (10, q57), (9, q54), (8, q51), (7, q48), (6, q45), (5, q42), (4, q39), (3, q36), (2, q33), (1, q30), (0, q27)] := by rw [eR83]; exact rl_put rrq13
  have kk : KK L82 C82 I82 R83 [0, 1, 2, 3, 4, 5, 6, 7, 8, 16, 17, 18, 19, 20, 21, 22, 23, 24, 25, 26, 32, 33, 34, 35, 36, 37, 38, 39, 40, 41, 42, 43, 44, 45, 46, 47, 48, 49, 50, 51, 52, 53, 54, 55, 56, 58, 59, 60] := by rw [eR83]; exact kk.stR kq13 zr_60
  have old : Old L0 C0 (I0, J0, R0) a0 L82 C82 I82 J82 R83 := by rw [eR83]; exact old.stR (Or.inr nq13)
  have oldB : Old L28 C28 (I28, J28, R28) q13 L82 C82 I82 J82 R83 := by rw [eR83]; exact oldB.stR (Or.inl rfl)
  have ow0 := ow0.stR kq13 rfl eR83
  refine lv_iinc (v := 19) (lv' := [(1, .int 19), (0, .ref a0)]) hx hb dX10_init_158 hl (k := 0) rfl (by decide) (by decide) rfl (fun ls hl => ?_)
  refine lv_goto (tgt := 139) hx hb dX10_init_161 (by decide) ?_
  refine lv_iload_n hx hb dX10_init_139 rfl (lv_at hl 0 rfl) ?_
  refine lv_bipush (v := 20) hx hb dX10_init_140 (by decide) ?_
  refine lv_icmp_ge (tgt := 164) hx hb dX10_init_142 (by decide) (fun q => absurd q (by decide)) (fun q => ?_)
  refine lv_aload_n hx hb dX10_init_145 rfl (lv_at hl 1 rfl) ?_
  refine gf_10_4 (b := q13) (by rw [rra0]; rfl) hx hb hts hown hH ma0 ka0 rfl kf_X10_41 dX10_init_146 ?_
  refine lv_iload_n hx hb dX10_init_149 rfl (lv_at hl 0 rfl) ?_
  refine hNew (ci := 7) (N := 2) hx hb hts hown hH inX7 tyX7_ok rfl (by decide) rfl df_7 kcl_X10_39 kinst_X7 kini_X7 (by decide) (by decide) dX10_init_150 (fun q84 L84 C84 I84 J84 R84 H g84 eI84 eJ84 eR84 hH => ?_)
  have nq84 : q84 ∉ L0 := fun h => g84.2.2 (old q84 h).1
  have n2q84 : q84 ∉ L28 := fun h => g84.2.2 (oldB q84 h).1
  have rra0 : R84 a0 = rl [(8, q24), (7, q21), (6, q18), (5, q15), (4, q13), (3, q10), (2, q7), (1, q4), (0, q1)] := by rw [eR84, va_up_ne _ _ (g84.ne ma0)]; exact rra0
  have ria0 : I84 a0 = il [] := by rw [eI84, va_up_ne _ _ (g84.ne ma0)]; exact ria0
  have ka0 := g84.role ma0 ka0
  have ma0 := g84.mem ma0
  have rrq13 : R84 q13 = rl [(18, q81), (17, q78), (16, q75), (15, q72), (14, q69), (13, q66), (12, q63), (11, q60), (10, q57), (9, q54), (8, q51), (7, q48), (6, q45), (5, q42), (4, q39), (3, q36), (2, q33), (1, q30), (0, q27)] := by rw [eR84, va_up_ne _ _ (g84.ne mq13)]; exact rrq13
  have riq13 : I84 q13 = il [] := by rw [eI84, va_up_ne _ _ (g84.ne mq13)]; exact riq13
  have kq13 := g84.role mq13 kq13
  have mq13 := g84.mem mq13
  have rrq15 : R84 q15 = rl [(1, q13), (0, q10), (6, z16_q7), (3, z16_q3), (2, z16_q1)] := by rw [eR84, va_up_ne _ _ (g84.ne mq15)]; exact rrq15
  have riq15 : I84 q15 = il [(5, 0), (4, 0)] := by rw [eI84, va_up_ne _ _ (g84.ne mq15)]; exact riq15
  have kq15 := g84.role mq15 kq15
  have mq15 := g84.mem mq15
  have mq84 := g84.new
  have kq84 := g84.at
  have al := al.new g84 eI84
  have z0 := z0.new g84 eI84 eJ84
  have ow0 := ow0.new g84 eR84
  have nl := nl.push g84
  have rrq84 : R84 q84 = rl [] := by rw [eR84, va_up_self]; rfl
  have riq84 : I84 q84 = il [] := by rw [eI84, va_up_self]; rfl
  have kk := kk.new g84 eI84 eR84 zz_23 zr_23 (Or.inl rfl) (by decide)
  have old := old.new g84 eI84 eJ84 eR84
  have oldB := oldB.new g84 eI84 eJ84 eR84
  refine lv_dup hx hb dX10_init_153 rfl ?_
  refine afA (va_runI (As := []) (rest := [.ref q84, .int 19, .ref q13]) ⟨hx, hb, hml, hown, hts⟩ (c_X7_init kk mq84 kq84 riq84 rrq84 z0 ow0) ⟨callB_of 0 hts (wG_code kc_yX7_init) rfl rfl rfl (hts _ kini_X7) (hts _ km_X10_77) ⟨by decide, by decide, by decide +kernel⟩ ⟨by decide, by decide⟩, rfl, hts _ ki_yX7_init⟩ (preS hH) rfl rfl hl.1 rfl (lv_room (Nat.le_of_ble_eq_true rfl)) dX10_init_154 ⟨by decide, by decide⟩) hH (fun L85 C85 I85 J85 R85 H locs hp hH => ?_)
  obtain ⟨kk, od85, kq85, z0, ow0, nw85⟩ := hp
  have ne85 : a0 ≠ q84 := ne_role ka0 kq84 (by decide)
  have rra0 : R85 a0 = rl [(8, q24), (7, q21), (6, q18), (5, q15), (4, q13), (3, q10), (2, q7), (1, q4), (0, q1)] := ((od85 a0 ma0).2 ne85).2.2.2.trans rra0
  have ria0 : I85 a0 = il [] := ((od85 a0 ma0).2 ne85).2.1.trans ria0
  have ka0 : C85 a0 = 26 := ((od85 a0 ma0).2 ne85).1.trans ka0
  have ma0 := (od85 a0 ma0).1
  have ne85 : q13 ≠ q84 := ne_role kq13 kq84 (by decide)
  have rrq13 : R85 q13 = rl [(18, q81), (17, q78), (16, q75), (15, q72), (14, q69), (13, q66), (12, q63), (11, q60), (10, q57), (9, q54), (8, q51), (7, q48), (6, q45), (5, q42), (4, q39), (3, q36), (2, q33), (1, q30), (0, q27)] := ((od85 q13 mq13).2 ne85).2.2.2.trans rrq13
  have riq13 : I85 q13 = il [] := ((od85 q13 mq13).2 ne85).2.1.trans riq13
  have kq13 : C85 q13 = 60 := ((od85 q13 mq13).2 ne85).1.trans kq13
  have mq13 := (od85 q13 mq13).1
  have ne85 : q15 ≠ q84 := ne_role kq15 kq84 (by decide)
  have rrq15 : R85 q15 = rl [(1, q13), (0, q10), (6, z16_q7), (3, z16_q3), (2, z16_q1)] := ((od85 q15 mq15).2 ne85).2.2.2.trans rrq15
  have riq15 : I85 q15 = il [(5, 0), (4, 0)] := ((od85 q15 mq15).2 ne85).2.1.trans riq15
  have kq15 : C85 q15 = 25 := ((od85 q15 mq15).2 ne85).1.trans kq15
  have mq15 := (od85 q15 mq15).1
  have al := al.old od85 kq84 rfl
  have kq84 : C85 q84 = 7 := kq85
  have mq84 := (od85 q84 mq84).1
  have old := old.ctor od85 nq84
  have oldB := oldB.ctor od85 n2q84
  have nl := nl.old od85
  have al := al.con0 mq84 kq84 rfl
  have kk : KK L85 C85 I85 R85 [0, 1, 2, 3, 4, 5, 6, 7, 8, 16, 17, 18, 19, 20, 21, 22, 23, 24, 25, 26, 32, 33, 34, 35, 36, 37, 38, 39, 40, 41, 42, 43, 44, 45, 46, 47, 48, 49, 50, 51, 52, 53, 54, 55, 56, 58, 59, 60] := kk.wS rfl
  have mq84 : q84 ∈ L85 := (al.at (i := 0) rfl).1
  have kq84 : C85 q84 = 7 := (al.at (i := 0) rfl).2
  refine st_60 hx hb hH mq13 kq13 (Rg_in (Rg_c (x := 19) (a := 19) (b := 19) (by decide)) (by decide)) mq84 kq84 rfl dX10_init_157 (fun R86 H locs eR86 hH => ?_)
  have rra0 : R86 a0 = rl [(8, q24), (7, q21), (6, q18), (5, q15), (4, q13), (3, q10), (2, q7), (1, q4), (0, q1)] := by rw [eR86, u2_ne (ne_role ka0 kq13 (by decide))]; exact rra0
  have rrq15 : R86 q15 = rl [(1, q13), (0, q10), (6, z16_q7), (3, z16_q3), (2, z16_q1)] := by rw [eR86, u2_ne (ne_role kq15 kq13 (by decide))]; exact rrq15
  have rrq13 : R86 q13 = rl [(19, q84), (18, q81), (17, q78), (16, q75), (15, q72), (14, q69), (13, q66), (12, q63), (11, q60), (10, q57), (9, q54), (8, q51), (7, q48), (6, q45), (5, q42), (4, q39), (3, q36), (2, q33), (1, q30), (0, q27)] := by rw [eR86]; exact rl_put rrq13
  have kk : KK L85 C85 I85 R86 [0, 1, 2, 3, 4, 5, 6, 7, 8, 16, 17, 18, 19, 20, 21, 22, 23, 24, 25, 26, 32, 33, 34, 35, 36, 37, 38, 39, 40, 41, 42, 43, 44, 45, 46, 47, 48, 49, 50, 51, 52, 53, 54, 55, 56, 58, 59, 60] := by rw [eR86]; exact kk.stR kq13 zr_60
  have old : Old L0 C0 (I0, J0, R0) a0 L85 C85 I85 J85 R86 := by rw [eR86]; exact old.stR (Or.inr nq13)
  have oldB : Old L28 C28 (I28, J28, R28) q13 L85 C85 I85 J85 R86 := by rw [eR86]; exact oldB.stR (Or.inl rfl)
  have ow0 := ow0.stR kq13 rfl eR86
  refine lv_iinc (v := 20) (lv' := [(1, .int 20), (0, .ref a0)]) hx hb dX10_init_158 hl (k := 0) rfl (by decide) (by decide) rfl (fun ls hl => ?_)
  refine lv_goto (tgt := 139) hx hb dX10_init_161 (by decide) ?_
  refine lv_iload_n hx hb dX10_init_139 rfl (lv_at hl 0 rfl) ?_
  refine lv_bipush (v := 20) hx hb dX10_init_140 (by decide) ?_
  refine lv_icmp_ge (tgt := 164) hx hb dX10_init_142 (by decide) (fun q => ?_) (fun q => absurd (by decide) q)
  have mq27 : q27 ∈ L85 := (al.at (i := 19) rfl).1
  have kq27 : C85 q27 = 7 := (al.at (i := 19) rfl).2
  have mq30 : q30 ∈ L85 := (al.at (i := 18) rfl).1
  have kq30 : C85 q30 = 7 := (al.at (i := 18) rfl).2
  have mq33 : q33 ∈ L85 := (al.at (i := 17) rfl).1
  have kq33 : C85 q33 = 7 := (al.at (i := 17) rfl).2
  have mq36 : q36 ∈ L85 := (al.at (i := 16) rfl).1
  have kq36 : C85 q36 = 7 := (al.at (i := 16) rfl).2
  have mq39 : q39 ∈ L85 := (al.at (i := 15) rfl).1
  have kq39 : C85 q39 = 7 := (al.at (i := 15) rfl).2
  have mq42 : q42 ∈ L85 := (al.at (i := 14) rfl).1
  have kq42 : C85 q42 = 7 := (al.at (i := 14) rfl).2
  have mq45 : q45 ∈ L85 := (al.at (i := 13) rfl).1
  have kq45 : C85 q45 = 7 := (al.at (i := 13) rfl).2
  have mq48 : q48 ∈ L85 := (al.at (i := 12) rfl).1
  have kq48 : C85 q48 = 7 := (al.at (i := 12) rfl).2
  have mq51 : q51 ∈ L85 := (al.at (i := 11) rfl).1
  have kq51 : C85 q51 = 7 := (al.at (i := 11) rfl).2
  have mq54 : q54 ∈ L85 := (al.at (i := 10) rfl).1
  have kq54 : C85 q54 = 7 := (al.at (i := 10) rfl).2
  have mq57 : q57 ∈ L85 := (al.at (i := 9) rfl).1
  have kq57 : C85 q57 = 7 := (al.at (i := 9) rfl).2
  have mq60 : q60 ∈ L85 := (al.at (i := 8) rfl).1
  have kq60 : C85 q60 = 7 := (al.at (i := 8) rfl).2
  have mq63 : q63 ∈ L85 := (al.at (i := 7) rfl).1
  have kq63 : C85 q63 = 7 := (al.at (i := 7) rfl).2
  have mq66 : q66 ∈ L85 := (al.at (i := 6) rfl).1
  have kq66 : C85 q66 = 7 := (al.at (i := 6) rfl).2
  have mq69 : q69 ∈ L85 := (al.at (i := 5) rfl).1
  have kq69 : C85 q69 = 7 := (al.at (i := 5) rfl).2
  have mq72 : q72 ∈ L85 := (al.at (i := 4) rfl).1
  have kq72 : C85 q72 = 7 := (al.at (i := 4) rfl).2
  have mq75 : q75 ∈ L85 := (al.at (i := 3) rfl).1
  have kq75 : C85 q75 = 7 := (al.at (i := 3) rfl).2
  have mq78 : q78 ∈ L85 := (al.at (i := 2) rfl).1
  have kq78 : C85 q78 = 7 := (al.at (i := 2) rfl).2
  have mq81 : q81 ∈ L85 := (al.at (i := 1) rfl).1
  have kq81 : C85 q81 = 7 := (al.at (i := 1) rfl).2
  have mq84 : q84 ∈ L85 := (al.at (i := 0) rfl).1
  have kq84 : C85 q84 = 7 := (al.at (i := 0) rfl).2
  have hI87 : ∀ j, j < rN 57 → rLo 57 j ≤ (I85 q13 j).toInt ∧ (I85 q13 j).toInt ≤ rHi 57 j ∧ (rX 57 = true → (I85 q13 j).toInt ≤ 3 ∨ (I85 q13 j).toInt = 9) := by rw [riq13]; decide +kernel
  have hR87 : ∀ j, j < rN 57 → rR 57 j ≠ 0 → ∃ b, b ∈ L85 ∧ b ≠ q13 ∧ R86 q13 j = some b ∧ C85 b + 1 = rR 57 j := by
    intro j hj hn
    rw [rrq13]
    have hj : j < 20 := hj
    rcases (show j = 0 ∨ j = 1 ∨ j = 2 ∨ j = 3 ∨ j = 4 ∨ j = 5 ∨ j = 6 ∨ j = 7 ∨ j = 8 ∨ j = 9 ∨ j = 10 ∨ j = 11 ∨ j = 12 ∨ j = 13 ∨ j = 14 ∨ j = 15 ∨ j = 16 ∨ j = 17 ∨ j = 18 ∨ j = 19 by omega) with rfl | rfl | rfl | rfl | rfl | rfl | rfl | rfl | rfl | rfl | rfl | rfl | rfl | rfl | rfl | rfl | rfl | rfl | rfl | rfl
    · exact ⟨q27, mq27, ne_role kq27 kq13 (by decide), rfl, by rw [kq27]; rfl⟩
    · exact ⟨q30, mq30, ne_role kq30 kq13 (by decide), rfl, by rw [kq30]; rfl⟩
    · exact ⟨q33, mq33, ne_role kq33 kq13 (by decide), rfl, by rw [kq33]; rfl⟩
    · exact ⟨q36, mq36, ne_role kq36 kq13 (by decide), rfl, by rw [kq36]; rfl⟩
    · exact ⟨q39, mq39, ne_role kq39 kq13 (by decide), rfl, by rw [kq39]; rfl⟩
    · exact ⟨q42, mq42, ne_role kq42 kq13 (by decide), rfl, by rw [kq42]; rfl⟩
    · exact ⟨q45, mq45, ne_role kq45 kq13 (by decide), rfl, by rw [kq45]; rfl⟩
    · exact ⟨q48, mq48, ne_role kq48 kq13 (by decide), rfl, by rw [kq48]; rfl⟩
    · exact ⟨q51, mq51, ne_role kq51 kq13 (by decide), rfl, by rw [kq51]; rfl⟩
    · exact ⟨q54, mq54, ne_role kq54 kq13 (by decide), rfl, by rw [kq54]; rfl⟩
    · exact ⟨q57, mq57, ne_role kq57 kq13 (by decide), rfl, by rw [kq57]; rfl⟩
    · exact ⟨q60, mq60, ne_role kq60 kq13 (by decide), rfl, by rw [kq60]; rfl⟩
    · exact ⟨q63, mq63, ne_role kq63 kq13 (by decide), rfl, by rw [kq63]; rfl⟩
    · exact ⟨q66, mq66, ne_role kq66 kq13 (by decide), rfl, by rw [kq66]; rfl⟩
    · exact ⟨q69, mq69, ne_role kq69 kq13 (by decide), rfl, by rw [kq69]; rfl⟩
    · exact ⟨q72, mq72, ne_role kq72 kq13 (by decide), rfl, by rw [kq72]; rfl⟩
    · exact ⟨q75, mq75, ne_role kq75 kq13 (by decide), rfl, by rw [kq75]; rfl⟩
    · exact ⟨q78, mq78, ne_role kq78 kq13 (by decide), rfl, by rw [kq78]; rfl⟩
    · exact ⟨q81, mq81, ne_role kq81 kq13 (by decide), rfl, by rw [kq81]; rfl⟩
    · exact ⟨q84, mq84, ne_role kq84 kq13 (by decide), rfl, by rw [kq84]; rfl⟩
  have oi87 : ∀ i j c, ow 57 i = true → ow 57 j = true → R86 q13 i = some c → R86 q13 j = some c → i = j := fun i j c o1 o2 h1 h2 => own_inj (n := 20) rfl nl.1 (fun i hi => by
    rw [rrq13]
    rcases (show i = 0 ∨ i = 1 ∨ i = 2 ∨ i = 3 ∨ i = 4 ∨ i = 5 ∨ i = 6 ∨ i = 7 ∨ i = 8 ∨ i = 9 ∨ i = 10 ∨ i = 11 ∨ i = 12 ∨ i = 13 ∨ i = 14 ∨ i = 15 ∨ i = 16 ∨ i = 17 ∨ i = 18 ∨ i = 19 by omega) with rfl | rfl | rfl | rfl | rfl | rfl | rfl | rfl | rfl | rfl | rfl | rfl | rfl | rfl | rfl | rfl | rfl | rfl | rfl | rfl <;> rfl) (by have a1 := ow_or o1; omega) (by have a1 := ow_or o2; omega) h1 h2
  have oo87 : ∀ b ∈ L85, C85 b = 57 → ∀ i j c, ow 57 i = true → ow 57 j = true → R86 b i = some c → R86 q13 j = some c → False := by
    intro b hb hC i j c o1 o2 h1 h2
    have a1 := kk.2.2.2.1 b hb
    rw [hC] at a1
    cases a1
  have ow0 := ow0.relO (q := q13) oi87 oo87
  have hH := hH.rel (q := q13) (r := 57) (by rw [kq13]; rfl) (by rw [kq13]; rfl)
  have kk := kk.rel mq13 kq13 (Or.inr ⟨by decide, by decide⟩) hI87 hR87 (Or.inr rfl) (fun h => absurd h (by decide)) (by decide) (by decide)
  have old := old.rel (q := q13) (r := 57) (Or.inr nq13)
  have oldB := oldB.rel (q := q13) (r := 57) (Or.inl rfl)
  have al := al.rel (r := 57) kq13 rfl
  have z0 := z0.rel (q := q13) (r := 57) (iv_il (by decide) riq13)
  obtain ⟨C87, eC87⟩ : ∃ z, z = va_up C85 q13 57 := ⟨_, rfl⟩
  rw [← eC87] at hH kk old al z0 ow0 oldB
  have ka0 : C87 a0 = 26 := by rw [eC87, va_up_ne _ _ (ne_role ka0 kq13 (by decide))]; exact ka0
  have kq15 : C87 q15 = 25 := by rw [eC87, va_up_ne _ _ (ne_role kq15 kq13 (by decide))]; exact kq15
  have kq13 : C87 q13 = 57 := by rw [eC87, va_up_self]
  have al := al.con0 mq13 kq13 rfl
  have mq10 : q10 ∈ L85 := (al.at (i := 27) rfl).1
  have kq10 : C87 q10 = 3 := (al.at (i := 27) rfl).2
  have mq13 : q13 ∈ L85 := (al.at (i := 0) rfl).1
  have kq13 : C87 q13 = 57 := (al.at (i := 0) rfl).2
  have mz16_q1 : z16_q1 ∈ L85 := (al.at (i := 24) rfl).1
  have kz16_q1 : C87 z16_q1 = 45 := (al.at (i := 24) rfl).2
  have mz16_q3 : z16_q3 ∈ L85 := (al.at (i := 25) rfl).1
  have kz16_q3 : C87 z16_q3 = 46 := (al.at (i := 25) rfl).2
  have mz16_q7 : z16_q7 ∈ L85 := (al.at (i := 26) rfl).1
  have kz16_q7 : C87 z16_q7 = 47 := (al.at (i := 26) rfl).2
  have hI88 : ∀ j, j < rN 9 → rLo 9 j ≤ (I85 q15 j).toInt ∧ (I85 q15 j).toInt ≤ rHi 9 j ∧ (rX 9 = true → (I85 q15 j).toInt ≤ 3 ∨ (I85 q15 j).toInt = 9) := by rw [riq15]; decide +kernel
  have hR88 : ∀ j, j < rN 9 → rR 9 j ≠ 0 → ∃ b, b ∈ L85 ∧ b ≠ q15 ∧ R86 q15 j = some b ∧ C87 b + 1 = rR 9 j := by
    intro j hj hn
    rw [rrq15]
    have hj : j < 7 := hj
    rcases (show j = 0 ∨ j = 1 ∨ j = 2 ∨ j = 3 ∨ j = 4 ∨ j = 5 ∨ j = 6 by omega) with rfl | rfl | rfl | rfl | rfl | rfl | rfl
    · exact ⟨q10, mq10, ne_role kq10 kq15 (by decide), rfl, by rw [kq10]; rfl⟩
    · exact ⟨q13, mq13, ne_role kq13 kq15 (by decide), rfl, by rw [kq13]; rfl⟩
    · exact ⟨z16_q1, mz16_q1, ne_role kz16_q1 kq15 (by decide), rfl, by rw [kz16_q1]; rfl⟩
    · exact ⟨z16_q3, mz16_q3, ne_role kz16_q3 kq15 (by decide), rfl, by rw [kz16_q3]; rfl⟩
    · exact absurd rfl hn
    · exact absurd rfl hn
    · exact ⟨z16_q7, mz16_q7, ne_role kz16_q7 kq15 (by decide), rfl, by rw [kz16_q7]; rfl⟩
  have ow0 := ow0.rel0 (q := q15) (r := 9) (fun _ => rfl)
  have tb := tb.old okn mtbq ktbq (fun c0 _ hc => fun e => by rw [e] at hc; (try dsimp only at hc); rw [katb] at hc; omega) oldB
  have mtb9 := (oldB _ mtbq).1
  have ktbq := ((oldB _ mtbq).2 (ne_role ktbq katb (by decide))).1.trans ktbq
  have mtbq := mtb9
  have wq : ∀ j, j < 100 → I85 wwq j = -1 := fun j hj => (congrFun ((oldB _ mwq).2 (ne_role kwq katb (by decide))).2.1 j).trans (wq j hj)
  have mw9 := (oldB _ mwq).1
  have kwq := ((oldB _ mwq).2 (ne_role kwq katb (by decide))).1.trans kwq
  have mwq := mw9
  have vaq : R86 kcq 8 = some aq8 := (congrFun ((oldB _ mkq).2 (ne_role kkq katb (by decide))).2.2.2 8).trans vaq
  have vbq : R86 kcq 9 = some bq9 := (congrFun ((oldB _ mkq).2 (ne_role kkq katb (by decide))).2.2.2 9).trans vbq
  have m9 := (oldB _ mkq).1
  have kkq := ((oldB _ mkq).2 (ne_role kkq katb (by decide))).1.trans kkq
  have mkq := m9
  have m9 := (oldB _ maq).1
  have kaq := ((oldB _ maq).2 (ne_role kaq katb (by decide))).1.trans kaq
  have maq := m9
  have m9 := (oldB _ mbq).1
  have kbq := ((oldB _ mbq).2 (ne_role kbq katb (by decide))).1.trans kbq
  have mbq := m9
  have okn := kk.2.1
  have katb := kq15
  have oldB : Old L85 C87 (I85, J85, R86) q15 L85 C87 I85 J85 R86 := Old.rf
  have hH := hH.rel (q := q15) (r := 9) (by rw [kq15]; rfl) (by rw [kq15]; rfl)
  have kk := kk.rel mq15 kq15 (Or.inl ⟨by decide, by decide⟩) hI88 hR88 (Or.inr rfl) (fun h => absurd h (by decide)) (by decide) (by decide)
  have old := old.rel (q := q15) (r := 9) (Or.inr nq15)
  have oldB := oldB.rel (q := q15) (r := 9) (Or.inl rfl)
  have al := al.rel (r := 9) kq15 rfl
  have z0 := z0.rel (q := q15) (r := 9) (iv_il (by decide) riq15)
  obtain ⟨C88, eC88⟩ : ∃ z, z = va_up C87 q15 9 := ⟨_, rfl⟩
  rw [← eC88] at hH kk old al z0 ow0 oldB
  have ka0 : C88 a0 = 26 := by rw [eC88, va_up_ne _ _ (ne_role ka0 kq15 (by decide))]; exact ka0
  have kq15 : C88 q15 = 9 := by rw [eC88, va_up_self]
  have al := al.con0 mq15 kq15 rfl
  have tb := tb.old okn mtbq ktbq (fun c0 _ hc => fun e => by rw [e] at hc; (try dsimp only at hc); rw [katb] at hc; omega) oldB
  have mtb9 := (oldB _ mtbq).1
  have ktbq := ((oldB _ mtbq).2 (ne_role ktbq katb (by decide))).1.trans ktbq
  have mtbq := mtb9
  have wq : ∀ j, j < 100 → I85 wwq j = -1 := fun j hj => (congrFun ((oldB _ mwq).2 (ne_role kwq katb (by decide))).2.1 j).trans (wq j hj)
  have mw9 := (oldB _ mwq).1
  have kwq := ((oldB _ mwq).2 (ne_role kwq katb (by decide))).1.trans kwq
  have mwq := mw9
  have vaq : R86 kcq 8 = some aq8 := (congrFun ((oldB _ mkq).2 (ne_role kkq katb (by decide))).2.2.2 8).trans vaq
  have vbq : R86 kcq 9 = some bq9 := (congrFun ((oldB _ mkq).2 (ne_role kkq katb (by decide))).2.2.2 9).trans vbq
  have m9 := (oldB _ mkq).1
  have kkq := ((oldB _ mkq).2 (ne_role kkq katb (by decide))).1.trans kkq
  have mkq := m9
  have m9 := (oldB _ maq).1
  have kaq := ((oldB _ maq).2 (ne_role kaq katb (by decide))).1.trans kaq
  have maq := m9
  have m9 := (oldB _ mbq).1
  have kbq := ((oldB _ mbq).2 (ne_role kbq katb (by decide))).1.trans kbq
  have mbq := m9
  have okn := kk.2.1
  have katb := ka0
  have oldB : Old L85 C88 (I85, J85, R86) a0 L85 C88 I85 J85 R86 := Old.rf
  have mq1 : q1 ∈ L85 := (al.at (i := 31) rfl).1
  have kq1 : C88 q1 = 6 := (al.at (i := 31) rfl).2
  have mq10 : q10 ∈ L85 := (al.at (i := 28) rfl).1
  have kq10 : C88 q10 = 3 := (al.at (i := 28) rfl).2
  have mq13 : q13 ∈ L85 := (al.at (i := 1) rfl).1
  have kq13 : C88 q13 = 57 := (al.at (i := 1) rfl).2
  have mq15 : q15 ∈ L85 := (al.at (i := 0) rfl).1
  have kq15 : C88 q15 = 9 := (al.at (i := 0) rfl).2
  have mq18 : q18 ∈ L85 := (al.at (i := 24) rfl).1
  have kq18 : C88 q18 = 8 := (al.at (i := 24) rfl).2
  have mq21 : q21 ∈ L85 := (al.at (i := 23) rfl).1
  have kq21 : C88 q21 = 4 := (al.at (i := 23) rfl).2
  have mq24 : q24 ∈ L85 := (al.at (i := 22) rfl).1
  have kq24 : C88 q24 = 1 := (al.at (i := 22) rfl).2
  have mq4 : q4 ∈ L85 := (al.at (i := 30) rfl).1
  have kq4 : C88 q4 = 0 := (al.at (i := 30) rfl).2
  have mq7 : q7 ∈ L85 := (al.at (i := 29) rfl).1
  have kq7 : C88 q7 = 2 := (al.at (i := 29) rfl).2
  have hI89 : ∀ j, j < rN 10 → rLo 10 j ≤ (I85 a0 j).toInt ∧ (I85 a0 j).toInt ≤ rHi 10 j ∧ (rX 10 = true → (I85 a0 j).toInt ≤ 3 ∨ (I85 a0 j).toInt = 9) := by rw [ria0]; decide +kernel
  have hR89 : ∀ j, j < rN 10 → rR 10 j ≠ 0 → ∃ b, b ∈ L85 ∧ b ≠ a0 ∧ R86 a0 j = some b ∧ C88 b + 1 = rR 10 j := by
    intro j hj hn
    rw [rra0]
    have hj : j < 9 := hj
    rcases (show j = 0 ∨ j = 1 ∨ j = 2 ∨ j = 3 ∨ j = 4 ∨ j = 5 ∨ j = 6 ∨ j = 7 ∨ j = 8 by omega) with rfl | rfl | rfl | rfl | rfl | rfl | rfl | rfl | rfl
    · exact ⟨q1, mq1, ne_role kq1 ka0 (by decide), rfl, by rw [kq1]; rfl⟩
    · exact ⟨q4, mq4, ne_role kq4 ka0 (by decide), rfl, by rw [kq4]; rfl⟩
    · exact ⟨q7, mq7, ne_role kq7 ka0 (by decide), rfl, by rw [kq7]; rfl⟩
    · exact ⟨q10, mq10, ne_role kq10 ka0 (by decide), rfl, by rw [kq10]; rfl⟩
    · exact ⟨q13, mq13, ne_role kq13 ka0 (by decide), rfl, by rw [kq13]; rfl⟩
    · exact ⟨q15, mq15, ne_role kq15 ka0 (by decide), rfl, by rw [kq15]; rfl⟩
    · exact ⟨q18, mq18, ne_role kq18 ka0 (by decide), rfl, by rw [kq18]; rfl⟩
    · exact ⟨q21, mq21, ne_role kq21 ka0 (by decide), rfl, by rw [kq21]; rfl⟩
    · exact ⟨q24, mq24, ne_role kq24 ka0 (by decide), rfl, by rw [kq24]; rfl⟩
  have ow0 := ow0.rel0 (q := a0) (r := 10) (fun _ => rfl)
  have hH := hH.rel (q := a0) (r := 10) (by rw [ka0]; rfl) (by rw [ka0]; rfl)
  have kk := kk.rel ma0 ka0 (Or.inl ⟨by decide, by decide⟩) hI89 hR89 (Or.inr rfl) (fun h => absurd h (by decide)) (by decide) (by decide)
  have old := old.rel (q := a0) (r := 10) (Or.inl rfl)
  have oldB := oldB.rel (q := a0) (r := 10) (Or.inl rfl)
  have al := al.rel (r := 10) ka0 rfl
  have z0 := z0.rel (q := a0) (r := 10) (iv_il (by decide) ria0)
  obtain ⟨C89, eC89⟩ : ∃ z, z = va_up C88 a0 10 := ⟨_, rfl⟩
  rw [← eC89] at hH kk old al z0 ow0 oldB
  have ka0 : C89 a0 = 10 := by rw [eC89, va_up_self]
  refine W.widen (k := 435) (n := 2770) (by decide) (by decide) ?_
  exact ret _ _ _ _ _ _ _ _ _ dX10_init_164 hH ⟨(kk.wS rfl), old, ka0, z0, ow0, ⟨q1, z2_0, z2_1, z2_2, z2_3, z2_4, z2_5, (AJ.pick (AJ.pick (AJ.pick (AJ.pick (AJ.pick (AJ.pick (AJ.pick AJ.nil al (i := 37) rfl) al (i := 36) rfl) al (i := 35) rfl) al (i := 34) rfl) al (i := 33) rfl) al (i := 32) rfl) al (i := 31) rfl)⟩, ⟨⟨⟨q1, (oldB _ mtbq).1, ((oldB _ mtbq).2 (ne_role ktbq katb (by decide))).1.trans ktbq, tb.old okn mtbq ktbq (fun c0 _ hc => fun e => by rw [e] at hc; (try dsimp only at hc); rw [katb] at hc; omega) oldB⟩, wwq, (oldB _ mwq).1, ((oldB _ mwq).2 (ne_role kwq katb (by decide))).1.trans kwq, fun j hj => (congrFun ((oldB _ mwq).2 (ne_role kwq katb (by decide))).2.1 j).trans (wq j hj)⟩, kcq, aq8, bq9, (oldB _ mkq).1, ((oldB _ mkq).2 (ne_role kkq katb (by decide))).1.trans kkq, (oldB _ maq).1, ((oldB _ maq).2 (ne_role kaq katb (by decide))).1.trans kaq, (oldB _ mbq).1, ((oldB _ mbq).2 (ne_role kbq katb (by decide))).1.trans kbq, (congrFun ((oldB _ mkq).2 (ne_role kkq katb (by decide))).2.2.2 8).trans vaq, (congrFun ((oldB _ mkq).2 (ne_role kkq katb (by decide))).2.2.2 9).trans vbq, nabq⟩⟩
