set_option maxHeartbeats 4000000 in
set_option maxRecDepth 100000 in
theorem c_X6_init {l : Launch} {D : va_G} {cy : Nat → ClassId} {L0 : List Nat} {C0 : Nat → Nat} {b0 : Nat} {I0 : hI} {J0 : hJ} {R0 : hR} {a0 : Nat} (kk : KK L0 C0 I0 R0 [22, 26]) (ma0 : a0 ∈ L0) (ka0 : C0 a0 = 22) (ria0 : I0 a0 = il []) (rra0 : R0 a0 = rl []) (z0 : Z0 L0 C0 I0 J0) (ow0 : Ow L0 C0 R0) : CA l yX6_init cX6_init 2 3 8 290 D cy L0 C0 b0 [.ref a0] (I0, J0, R0) (fun q => KK q.1 q.2.1 q.2.2.1 q.2.2.2.2 [6, 22, 26, 32, 33, 34, 35, 36, 37, 38, 39] ∧ Old L0 C0 (I0, J0, R0) a0 q.1 q.2.1 q.2.2.1 q.2.2.2.1 q.2.2.2.2 ∧ q.2.1 a0 = 6 ∧ Z0 q.1 q.2.1 q.2.2.1 q.2.2.2.1 ∧ Ow q.1 q.2.1 q.2.2.2.2 ∧ (∃ w_q11 w_q9 w_q7 w_q5 w_q3 w_q1 : Nat, AJ q.1 q.2.1 q.2.2.1 [(a0, 6, (false, [(6, 12)])), (w_q11, 37, (true, [(11, 1), (10, 1), (9, 1), (8, 1), (7, 1), (6, 1), (5, 1), (4, 1), (3, 1), (2, 1), (1, 1), (0, 1)])), (w_q9, 36, (true, [(11, 0), (10, 0), (9, 0), (8, 0), (7, 0), (6, 0), (5, 0), (4, 0), (3, 0), (2, 0), (1, 0), (0, 0)])), (w_q7, 35, (true, [(11, 1), (10, 1), (9, 1), (8, 10), (7, 1), (6, 1), (5, 1), (4, 1), (3, 1), (2, 1), (1, 1), (0, 1)])), (w_q5, 34, (true, [(11, 5), (10, 2), (9, 6), (8, 3), (7, 6), (6, 2), (5, 5), (4, 5), (3, 5), (2, 1), (1, 1), (0, 1)])), (w_q3, 33, (true, [(11, 6), (10, 1), (9, 3), (8, 5), (7, 4), (6, 0), (5, 0), (4, 1), (3, 2), (2, 3), (1, 2), (0, 1)])), (w_q1, 32, (true, [(11, 1), (10, 6), (9, 5), (8, 3), (7, 2), (6, 4), (5, 1), (4, 2), (3, 3), (2, 2), (1, 1), (0, 0)]))]) ∧ TbH q.1 q.2.1 q.2.2.1 q.2.2.2.2 a0) := by
  refine CA.mk (plainFor_of_name (by decide)) (Nat.le_of_ble_eq_true rfl) ?_
  intro p e s m args below meth c ls Q hF hin ret hH hl
  obtain ⟨hx, hb, -, hml, hown, hts, -⟩ := hF
  have hl : lv_has ls 2 [(0, .ref a0)] := hl
  have hH : Hp D cy L0 C0 b0 s s.heap I0 J0 R0 s.heap [] := hH
  have old : Old L0 C0 (I0, J0, R0) a0 L0 C0 I0 J0 R0 := Old.rf
  have hS0 := kk.2.2.2.1
  have kk0 := kk.2.1
  have al : AJ L0 C0 I0 [] := AJ.nil
  have aq : AJ L0 C0 I0 [] := AJ.nil
  obtain ⟨tFROM, hzFROM, htFROM⟩ := hH.2.2.2.2.2.2.2 ("FROM", [0, 1, 2, 3, 2, 1, 4, 2, 3, 5, 6, 1]) (by simp [ZA4])
  obtain ⟨tTO, hzTO, htTO⟩ := hH.2.2.2.2.2.2.2 ("TO", [1, 2, 3, 2, 1, 0, 0, 4, 5, 3, 1, 6]) (by simp [ZA4])
  obtain ⟨tCOST, hzCOST, htCOST⟩ := hH.2.2.2.2.2.2.2 ("COST", [1, 1, 1, 5, 5, 5, 2, 6, 3, 6, 2, 5]) (by simp [ZA4])
  obtain ⟨tBY, hzBY, htBY⟩ := hH.2.2.2.2.2.2.2 ("BY", [1, 1, 1, 1, 1, 1, 1, 1, 10, 1, 1, 1]) (by simp [ZA4])
  refine lv_aload_n hx hb dX6_init_0 rfl (lv_at hl 0 rfl) ?_
  refine W.objInit hx hb hown (hts _ km_X6_3) (hts _ ki_objectInit) (hts _ kc_objectInit) rfl (by rw [hml]; exact hl.1) rfl dX6_init_1 (Nat.le_of_ble_eq_true rfl) (Nat.le_of_ble_eq_true rfl) ?_
  refine W.eq (g2 := F0 m 4 ls []) rfl ?_
  refine lv_aload_n hx hb dX6_init_4 rfl (lv_at hl 0 rfl) ?_
  refine lv_bipush (v := 32) hx hb dX6_init_5 (by decide) ?_
  refine hNewP (k := 0) (r := 32) (N := 32) (atype := .int) (ty := .int) (a0 := (32, .inl (fun _ => 0))) hx hb hts hH rfl kac_int rfl rfl rfl (eN_I rfl rfl) (by decide) (by decide) (by decide) (by decide) (by decide) dX6_init_7 (fun q1 L1 C1 I1 J1 R1 H g1 eI1 eJ1 eR1 hH => ?_)
  have nq1 : q1 ∉ L0 := fun h => g1.2.2 (old q1 h).1
  have rra0 : R1 a0 = rl [] := by rw [eR1, va_up_ne _ _ (g1.ne ma0)]; exact rra0
  have ria0 : I1 a0 = il [] := by rw [eI1, va_up_ne _ _ (g1.ne ma0)]; exact ria0
  have ka0 := g1.role ma0 ka0
  have ma0 := g1.mem ma0
  have mq1 := g1.new
  have kq1 := g1.at
  have aq := aq.new g1 eI1
  have al := al.new g1 eI1
  have z0 := z0.new g1 eI1 eJ1
  have ow0 := ow0.new g1 eR1
  have aq := aq.cons mq1 kq1 rfl (Fc.row (l := []) (by rw [eI1, va_up_self]; rfl))
  have kk := kk.new g1 eI1 eR1 zz_32 zr_32 (Or.inr rfl) (by decide)
  have old := old.new g1 eI1 eJ1 eR1
  refine pf_6_0 hx hb hts hown hH hin rfl ma0 ka0 rfl kf_X6_11 dX6_init_9 (fun R2 H locs eR2 hH => ?_)
  have rra0 : R2 a0 = rl [(0, q1)] := by rw [eR2]; exact rl_put rra0
  have kk : KK L1 C1 I1 R2 [32, 22, 26] := by rw [eR2]; exact kk.stR ka0 zr_22
  have old : Old L0 C0 (I0, J0, R0) a0 L1 C1 I1 J1 R2 := by rw [eR2]; exact old.stR (Or.inl rfl)
  have ow0 := ow0.stR ka0 rfl eR2
  refine lv_aload_n hx hb dX6_init_12 rfl (lv_at hl 0 rfl) ?_
  refine lv_bipush (v := 32) hx hb dX6_init_13 (by decide) ?_
  refine hNewP (k := 0) (r := 33) (N := 32) (atype := .int) (ty := .int) (a0 := (32, .inl (fun _ => 0))) hx hb hts hH rfl kac_int rfl rfl rfl (eN_I rfl rfl) (by decide) (by decide) (by decide) (by decide) (by decide) dX6_init_15 (fun q3 L3 C3 I3 J3 R3 H g3 eI3 eJ3 eR3 hH => ?_)
  have nq3 : q3 ∉ L0 := fun h => g3.2.2 (old q3 h).1
  have rra0 : R3 a0 = rl [(0, q1)] := by rw [eR3, va_up_ne _ _ (g3.ne ma0)]; exact rra0
  have ria0 : I3 a0 = il [] := by rw [eI3, va_up_ne _ _ (g3.ne ma0)]; exact ria0
  have ka0 := g3.role ma0 ka0
  have ma0 := g3.mem ma0
  have mq3 := g3.new
  have kq3 := g3.at
  have aq := aq.new g3 eI3
  have al := al.new g3 eI3
  have z0 := z0.new g3 eI3 eJ3
  have ow0 := ow0.new g3 eR3
  have aq := aq.cons mq3 kq3 rfl (Fc.row (l := []) (by rw [eI3, va_up_self]; rfl))
  have kk := kk.new g3 eI3 eR3 zz_33 zr_33 (Or.inr rfl) (by decide)
  have old := old.new g3 eI3 eJ3 eR3
  refine pf_6_1 hx hb hts hown hH hin rfl ma0 ka0 rfl kf_X6_15 dX6_init_17 (fun R4 H locs eR4 hH => ?_)
  have rra0 : R4 a0 = rl [(1, q3), (0, q1)] := by rw [eR4]; exact rl_put rra0
  have kk : KK L3 C3 I3 R4 [33, 32, 22, 26] := by rw [eR4]; exact kk.stR ka0 zr_22
  have old : Old L0 C0 (I0, J0, R0) a0 L3 C3 I3 J3 R4 := by rw [eR4]; exact old.stR (Or.inl rfl)
  have ow0 := ow0.stR ka0 rfl eR4
  refine lv_aload_n hx hb dX6_init_20 rfl (lv_at hl 0 rfl) ?_
  refine lv_bipush (v := 32) hx hb dX6_init_21 (by decide) ?_
  refine hNewP (k := 0) (r := 34) (N := 32) (atype := .int) (ty := .int) (a0 := (32, .inl (fun _ => 0))) hx hb hts hH rfl kac_int rfl rfl rfl (eN_I rfl rfl) (by decide) (by decide) (by decide) (by decide) (by decide) dX6_init_23 (fun q5 L5 C5 I5 J5 R5 H g5 eI5 eJ5 eR5 hH => ?_)
  have nq5 : q5 ∉ L0 := fun h => g5.2.2 (old q5 h).1
  have rra0 : R5 a0 = rl [(1, q3), (0, q1)] := by rw [eR5, va_up_ne _ _ (g5.ne ma0)]; exact rra0
  have ria0 : I5 a0 = il [] := by rw [eI5, va_up_ne _ _ (g5.ne ma0)]; exact ria0
  have ka0 := g5.role ma0 ka0
  have ma0 := g5.mem ma0
  have mq5 := g5.new
  have kq5 := g5.at
  have aq := aq.new g5 eI5
  have al := al.new g5 eI5
  have z0 := z0.new g5 eI5 eJ5
  have ow0 := ow0.new g5 eR5
  have aq := aq.cons mq5 kq5 rfl (Fc.row (l := []) (by rw [eI5, va_up_self]; rfl))
  have kk := kk.new g5 eI5 eR5 zz_34 zr_34 (Or.inr rfl) (by decide)
  have old := old.new g5 eI5 eJ5 eR5
  refine pf_6_2 hx hb hts hown hH hin rfl ma0 ka0 rfl kf_X6_18 dX6_init_25 (fun R6 H locs eR6 hH => ?_)
  have rra0 : R6 a0 = rl [(2, q5), (1, q3), (0, q1)] := by rw [eR6]; exact rl_put rra0
  have kk : KK L5 C5 I5 R6 [34, 33, 32, 22, 26] := by rw [eR6]; exact kk.stR ka0 zr_22
  have old : Old L0 C0 (I0, J0, R0) a0 L5 C5 I5 J5 R6 := by rw [eR6]; exact old.stR (Or.inl rfl)
  have ow0 := ow0.stR ka0 rfl eR6
  refine lv_aload_n hx hb dX6_init_28 rfl (lv_at hl 0 rfl) ?_
  refine lv_bipush (v := 32) hx hb dX6_init_29 (by decide) ?_
  refine hNewP (k := 0) (r := 35) (N := 32) (atype := .int) (ty := .int) (a0 := (32, .inl (fun _ => 0))) hx hb hts hH rfl kac_int rfl rfl rfl (eN_I rfl rfl) (by decide) (by decide) (by decide) (by decide) (by decide) dX6_init_31 (fun q7 L7 C7 I7 J7 R7 H g7 eI7 eJ7 eR7 hH => ?_)
  have nq7 : q7 ∉ L0 := fun h => g7.2.2 (old q7 h).1
  have rra0 : R7 a0 = rl [(2, q5), (1, q3), (0, q1)] := by rw [eR7, va_up_ne _ _ (g7.ne ma0)]; exact rra0
  have ria0 : I7 a0 = il [] := by rw [eI7, va_up_ne _ _ (g7.ne ma0)]; exact ria0
  have ka0 := g7.role ma0 ka0
  have ma0 := g7.mem ma0
  have mq7 := g7.new
  have kq7 := g7.at
  have aq := aq.new g7 eI7
  have al := al.new g7 eI7
  have z0 := z0.new g7 eI7 eJ7
  have ow0 := ow0.new g7 eR7
  have aq := aq.cons mq7 kq7 rfl (Fc.row (l := []) (by rw [eI7, va_up_self]; rfl))
  have kk := kk.new g7 eI7 eR7 zz_35 zr_35 (Or.inr rfl) (by decide)
  have old := old.new g7 eI7 eJ7 eR7
  refine pf_6_3 hx hb hts hown hH hin rfl ma0 ka0 rfl kf_X6_21 dX6_init_33 (fun R8 H locs eR8 hH => ?_)
  have rra0 : R8 a0 = rl [(3, q7), (2, q5), (1, q3), (0, q1)] := by rw [eR8]; exact rl_put rra0
  have kk : KK L7 C7 I7 R8 [35, 34, 33, 32, 22, 26] := by rw [eR8]; exact kk.stR ka0 zr_22
  have old : Old L0 C0 (I0, J0, R0) a0 L7 C7 I7 J7 R8 := by rw [eR8]; exact old.stR (Or.inl rfl)
  have ow0 := ow0.stR ka0 rfl eR8
  refine lv_aload_n hx hb dX6_init_36 rfl (lv_at hl 0 rfl) ?_
  refine lv_bipush (v := 32) hx hb dX6_init_37 (by decide) ?_
  refine hNewP (k := 0) (r := 36) (N := 32) (atype := .int) (ty := .int) (a0 := (32, .inl (fun _ => 0))) hx hb hts hH rfl kac_int rfl rfl rfl (eN_I rfl rfl) (by decide) (by decide) (by decide) (by decide) (by decide) dX6_init_39 (fun q9 L9 C9 I9 J9 R9 H g9 eI9 eJ9 eR9 hH => ?_)
  have nq9 : q9 ∉ L0 := fun h => g9.2.2 (old q9 h).1
  have rra0 : R9 a0 = rl [(3, q7), (2, q5), (1, q3), (0, q1)] := by rw [eR9, va_up_ne _ _ (g9.ne ma0)]; exact rra0
  have ria0 : I9 a0 = il [] := by rw [eI9, va_up_ne _ _ (g9.ne ma0)]; exact ria0
  have ka0 := g9.role ma0 ka0
  have ma0 := g9.mem ma0
  have mq9 := g9.new
  have kq9 := g9.at
  have aq := aq.new g9 eI9
  have al := al.new g9 eI9
  have z0 := z0.new g9 eI9 eJ9
  have ow0 := ow0.new g9 eR9
  have aq := aq.cons mq9 kq9 rfl (Fc.row (l := []) (by rw [eI9, va_up_self]; rfl))
  have kk := kk.new g9 eI9 eR9 zz_36 zr_36 (Or.inr rfl) (by decide)
  have old := old.new g9 eI9 eJ9 eR9
  refine pf_6_4 hx hb hts hown hH hin rfl ma0 ka0 rfl kf_X6_24 dX6_init_41 (fun R10 H locs eR10 hH => ?_)
  have rra0 : R10 a0 = rl [(4, q9), (3, q7), (2, q5), (1, q3), (0, q1)] := by rw [eR10]; exact rl_put rra0
  have kk : KK L9 C9 I9 R10 [36, 35, 34, 33, 32, 22, 26] := by rw [eR10]; exact kk.stR ka0 zr_22
  have old : Old L0 C0 (I0, J0, R0) a0 L9 C9 I9 J9 R10 := by rw [eR10]; exact old.stR (Or.inl rfl)
  have ow0 := ow0.stR ka0 rfl eR10
  refine lv_aload_n hx hb dX6_init_44 rfl (lv_at hl 0 rfl) ?_
  refine lv_bipush (v := 32) hx hb dX6_init_45 (by decide) ?_
  refine hNewP (k := 2) (r := 37) (N := 32) (atype := .boolean) (ty := .boolean) (a0 := (32, .inl (fun _ => 0))) hx hb hts hH rfl kac_boolean rfl rfl rfl (eN_Z rfl rfl) (by decide) (by decide) (by decide) (by decide) (by decide) dX6_init_47 (fun q11 L11 C11 I11 J11 R11 H g11 eI11 eJ11 eR11 hH => ?_)
  have nq11 : q11 ∉ L0 := fun h => g11.2.2 (old q11 h).1
  have rra0 : R11 a0 = rl [(4, q9), (3, q7), (2, q5), (1, q3), (0, q1)] := by rw [eR11, va_up_ne _ _ (g11.ne ma0)]; exact rra0
  have ria0 : I11 a0 = il [] := by rw [eI11, va_up_ne _ _ (g11.ne ma0)]; exact ria0
  have ka0 := g11.role ma0 ka0
  have ma0 := g11.mem ma0
  have mq11 := g11.new
  have kq11 := g11.at
  have aq := aq.new g11 eI11
  have al := al.new g11 eI11
  have z0 := z0.new g11 eI11 eJ11
  have ow0 := ow0.new g11 eR11
  have aq := aq.cons mq11 kq11 rfl (Fc.row (l := []) (by rw [eI11, va_up_self]; rfl))
  have kk := kk.new g11 eI11 eR11 zz_37 zr_37 (Or.inr rfl) (by decide)
  have old := old.new g11 eI11 eJ11 eR11
  refine pf_6_5 hx hb hts hown hH hin rfl ma0 ka0 rfl kf_X6_27 dX6_init_49 (fun R12 H locs eR12 hH => ?_)
  have rra0 : R12 a0 = rl [(5, q11), (4, q9), (3, q7), (2, q5), (1, q3), (0, q1)] := by rw [eR12]; exact rl_put rra0
  have kk : KK L11 C11 I11 R12 [37, 36, 35, 34, 33, 32, 22, 26] := by rw [eR12]; exact kk.stR ka0 zr_22
  have old : Old L0 C0 (I0, J0, R0) a0 L11 C11 I11 J11 R12 := by rw [eR12]; exact old.stR (Or.inl rfl)
  have ow0 := ow0.stR ka0 rfl eR12
  refine lv_aload_n hx hb dX6_init_52 rfl (lv_at hl 0 rfl) ?_
  refine lv_iconst (v := 0) hx hb dX6_init_53 (by decide) ?_
  refine pf_6_6 hx hb hts hown hH ma0 ka0 rfl kf_X6_31 dX6_init_54 (fun I13 H locs eI13 hH => ?_)
  have ria0 : I13 a0 = il [(6, 0)] := by rw [eI13]; exact il_put ria0
  have kk : KK L11 C11 I13 R12 [37, 36, 35, 34, 33, 32, 22, 26] := by rw [eI13]; exact kk.stI ka0 ⟨by decide, by decide⟩
  have old : Old L0 C0 (I0, J0, R0) a0 L11 C11 I13 J11 R12 := by rw [eI13]; exact old.stI (Or.inl rfl)
  have aq := aq.stI ka0 rfl eI13
  have al := al.stI ka0 rfl eI13
  have z0 := z0.stI ka0 rfl eI13
  refine lv_aload_n hx hb dX6_init_57 rfl (lv_at hl 0 rfl) ?_
  refine lv_iconst (v := 0) hx hb dX6_init_58 (by decide) ?_
  refine pf_6_7 hx hb hts hown hH ma0 ka0 rfl kf_X6_35 dX6_init_59 (fun I14 H locs eI14 hH => ?_)
  have ria0 : I14 a0 = il [(7, 0), (6, 0)] := by rw [eI14]; exact il_put ria0
  have kk : KK L11 C11 I14 R12 [37, 36, 35, 34, 33, 32, 22, 26] := by rw [eI14]; exact kk.stI ka0 ⟨by decide, by decide⟩
  have old : Old L0 C0 (I0, J0, R0) a0 L11 C11 I14 J11 R12 := by rw [eI14]; exact old.stI (Or.inl rfl)
  have aq := aq.stI ka0 rfl eI14
  have al := al.stI ka0 rfl eI14
  have z0 := z0.stI ka0 rfl eI14
  refine lv_aload_n hx hb dX6_init_62 rfl (lv_at hl 0 rfl) ?_
  refine lv_bipush (v := 49) hx hb dX6_init_63 (by decide) ?_
  refine hNewP (k := 0) (r := 38) (N := 49) (atype := .int) (ty := .int) (a0 := (49, .inl (fun _ => 0))) hx hb hts hH rfl kac_int rfl rfl rfl (eN_I rfl rfl) (by decide) (by decide) (by decide) (by decide) (by decide) dX6_init_65 (fun q15 L15 C15 I15 J15 R15 H g15 eI15 eJ15 eR15 hH => ?_)
  have nq15 : q15 ∉ L0 := fun h => g15.2.2 (old q15 h).1
  have rra0 : R15 a0 = rl [(5, q11), (4, q9), (3, q7), (2, q5), (1, q3), (0, q1)] := by rw [eR15, va_up_ne _ _ (g15.ne ma0)]; exact rra0
  have ria0 : I15 a0 = il [(7, 0), (6, 0)] := by rw [eI15, va_up_ne _ _ (g15.ne ma0)]; exact ria0
  have ka0 := g15.role ma0 ka0
  have ma0 := g15.mem ma0
  have mq15 := g15.new
  have kq15 := g15.at
  have aq := aq.new g15 eI15
  have al := al.new g15 eI15
  have z0 := z0.new g15 eI15 eJ15
  have ow0 := ow0.new g15 eR15
  have al := al.con0 mq15 kq15 rfl
  have kk := kk.new g15 eI15 eR15 zz_38 zr_38 (Or.inr rfl) (by decide)
  have old := old.new g15 eI15 eJ15 eR15
  refine pf_6_8 hx hb hts hown hH hin rfl ma0 ka0 rfl kf_X6_38 dX6_init_67 (fun R16 H locs eR16 hH => ?_)
  have rra0 : R16 a0 = rl [(8, q15), (5, q11), (4, q9), (3, q7), (2, q5), (1, q3), (0, q1)] := by rw [eR16]; exact rl_put rra0
  have kk : KK L15 C15 I15 R16 [38, 37, 36, 35, 34, 33, 32, 22, 26] := by rw [eR16]; exact kk.stR ka0 zr_22
  have old : Old L0 C0 (I0, J0, R0) a0 L15 C15 I15 J15 R16 := by rw [eR16]; exact old.stR (Or.inl rfl)
  have ow0 := ow0.stR ka0 rfl eR16
  refine lv_aload_n hx hb dX6_init_70 rfl (lv_at hl 0 rfl) ?_
  refine lv_bipush (v := 49) hx hb dX6_init_71 (by decide) ?_
  refine hNewP (k := 0) (r := 39) (N := 49) (atype := .int) (ty := .int) (a0 := (49, .inl (fun _ => 0))) hx hb hts hH rfl kac_int rfl rfl rfl (eN_I rfl rfl) (by decide) (by decide) (by decide) (by decide) (by decide) dX6_init_73 (fun q17 L17 C17 I17 J17 R17 H g17 eI17 eJ17 eR17 hH => ?_)
  have nq17 : q17 ∉ L0 := fun h => g17.2.2 (old q17 h).1
  have rra0 : R17 a0 = rl [(8, q15), (5, q11), (4, q9), (3, q7), (2, q5), (1, q3), (0, q1)] := by rw [eR17, va_up_ne _ _ (g17.ne ma0)]; exact rra0
  have ria0 : I17 a0 = il [(7, 0), (6, 0)] := by rw [eI17, va_up_ne _ _ (g17.ne ma0)]; exact ria0
  have ka0 := g17.role ma0 ka0
  have ma0 := g17.mem ma0
  have mq17 := g17.new
  have kq17 := g17.at
  have aq := aq.new g17 eI17
  have al := al.new g17 eI17
  have z0 := z0.new g17 eI17 eJ17
  have ow0 := ow0.new g17 eR17
  have al := al.con0 mq17 kq17 rfl
  have kk := kk.new g17 eI17 eR17 zz_39 zr_39 (Or.inr rfl) (by decide)
  have old := old.new g17 eI17 eJ17 eR17
  refine pf_6_9 hx hb hts hown hH hin rfl ma0 ka0 rfl kf_X6_41 dX6_init_75 (fun R18 H locs eR18 hH => ?_)
  have rra0 : R18 a0 = rl [(9, q17), (8, q15), (5, q11), (4, q9), (3, q7), (2, q5), (1, q3), (0, q1)] := by rw [eR18]; exact rl_put rra0
  have kk : KK L17 C17 I17 R18 [39, 38, 37, 36, 35, 34, 33, 32, 22, 26] := by rw [eR18]; exact kk.stR ka0 zr_22
  have old : Old L0 C0 (I0, J0, R0) a0 L17 C17 I17 J17 R18 := by rw [eR18]; exact old.stR (Or.inl rfl)
  have ow0 := ow0.stR ka0 rfl eR18
  refine lv_aload_n hx hb dX6_init_78 rfl (lv_at hl 0 rfl) ?_
  refine lv_lconst (v := 0) hx hb dX6_init_79 (by decide) ?_
  refine pf_6_10 hx hb hts hown hH ma0 ka0 rfl kf_X6_44 dX6_init_80 (fun J19 H locs eJ19 hH => ?_)
  have old : Old L0 C0 (I0, J0, R0) a0 L17 C17 I17 J19 R18 := by rw [eJ19]; exact old.stJ (Or.inl rfl)
  have z0 := z0.stJ eJ19
  refine lv_aload_n hx hb dX6_init_83 rfl (lv_at hl 0 rfl) ?_
  refine lv_iconst (v := (-1)) hx hb dX6_init_84 (by decide) ?_
  refine pf_6_11 hx hb hts hown hH ma0 ka0 rfl kf_X6_48 dX6_init_85 (fun I20 H locs eI20 hH => ?_)
  have ria0 : I20 a0 = il [(11, (-1)), (7, 0), (6, 0)] := by rw [eI20]; exact il_put ria0
  have kk : KK L17 C17 I20 R18 [39, 38, 37, 36, 35, 34, 33, 32, 22, 26] := by rw [eI20]; exact kk.stI ka0 ⟨by decide, by decide⟩
  have old : Old L0 C0 (I0, J0, R0) a0 L17 C17 I20 J19 R18 := by rw [eI20]; exact old.stI (Or.inl rfl)
  have aq := aq.stI ka0 rfl eI20
  have al := al.stI ka0 rfl eI20
  have z0 := z0.stI ka0 rfl eI20
  have mq1 : q1 ∈ L17 := (aq.at (i := 5) rfl).1
  have kq1 : C17 q1 = 32 := (aq.at (i := 5) rfl).2
  have mq11 : q11 ∈ L17 := (aq.at (i := 0) rfl).1
  have kq11 : C17 q11 = 37 := (aq.at (i := 0) rfl).2
  have mq15 : q15 ∈ L17 := (al.at (i := 1) rfl).1
  have kq15 : C17 q15 = 38 := (al.at (i := 1) rfl).2
  have mq17 : q17 ∈ L17 := (al.at (i := 0) rfl).1
  have kq17 : C17 q17 = 39 := (al.at (i := 0) rfl).2
  have mq3 : q3 ∈ L17 := (aq.at (i := 4) rfl).1
  have kq3 : C17 q3 = 33 := (aq.at (i := 4) rfl).2
  have mq5 : q5 ∈ L17 := (aq.at (i := 3) rfl).1
  have kq5 : C17 q5 = 34 := (aq.at (i := 3) rfl).2
  have mq7 : q7 ∈ L17 := (aq.at (i := 2) rfl).1
  have kq7 : C17 q7 = 35 := (aq.at (i := 2) rfl).2
  have mq9 : q9 ∈ L17 := (aq.at (i := 1) rfl).1
  have kq9 : C17 q9 = 36 := (aq.at (i := 1) rfl).2
  have hI21 : ∀ j, j < rN 6 → rLo 6 j ≤ (I20 a0 j).toInt ∧ (I20 a0 j).toInt ≤ rHi 6 j ∧ (rX 6 = true → (I20 a0 j).toInt ≤ 3 ∨ (I20 a0 j).toInt = 9) := by rw [ria0]; decide +kernel
  have hR21 : ∀ j, j < rN 6 → rR 6 j ≠ 0 → ∃ b, b ∈ L17 ∧ b ≠ a0 ∧ R18 a0 j = some b ∧ C17 b + 1 = rR 6 j := by
    intro j hj hn
    rw [rra0]
    have hj : j < 12 := hj
    rcases (show j = 0 ∨ j = 1 ∨ j = 2 ∨ j = 3 ∨ j = 4 ∨ j = 5 ∨ j = 6 ∨ j = 7 ∨ j = 8 ∨ j = 9 ∨ j = 10 ∨ j = 11 by omega) with rfl | rfl | rfl | rfl | rfl | rfl | rfl | rfl | rfl | rfl | rfl | rfl
    · exact ⟨q1, mq1, ne_role kq1 ka0 (by decide), rfl, by rw [kq1]; rfl⟩
    · exact ⟨q3, mq3, ne_role kq3 ka0 (by decide), rfl, by rw [kq3]; rfl⟩
    · exact ⟨q5, mq5, ne_role kq5 ka0 (by decide), rfl, by rw [kq5]; rfl⟩
    · exact ⟨q7, mq7, ne_role kq7 ka0 (by decide), rfl, by rw [kq7]; rfl⟩
    · exact ⟨q9, mq9, ne_role kq9 ka0 (by decide), rfl, by rw [kq9]; rfl⟩
    · exact ⟨q11, mq11, ne_role kq11 ka0 (by decide), rfl, by rw [kq11]; rfl⟩
    · exact absurd rfl hn
    · exact absurd rfl hn
    · exact ⟨q15, mq15, ne_role kq15 ka0 (by decide), rfl, by rw [kq15]; rfl⟩
    · exact ⟨q17, mq17, ne_role kq17 ka0 (by decide), rfl, by rw [kq17]; rfl⟩
    · exact absurd rfl hn
    · exact absurd rfl hn
  have ow0 := ow0.rel0 (q := a0) (r := 6) (fun _ => rfl)
  have hH := hH.rel (q := a0) (r := 6) (by rw [ka0]; rfl) (by rw [ka0]; rfl)
  have kk := kk.rel ma0 ka0 (Or.inl ⟨by decide, by decide⟩) hI21 hR21 (Or.inr rfl) (fun h => absurd h (by decide)) (by decide) (by decide)
  have old := old.rel (q := a0) (r := 6) (Or.inl rfl)
  have aq := aq.rel (r := 6) ka0 rfl
  have al := al.rel (r := 6) ka0 rfl
  have z0 := z0.rel (q := a0) (r := 6) (iv_il (by decide) ria0)
  obtain ⟨C21, eC21⟩ : ∃ z, z = va_up C17 a0 6 := ⟨_, rfl⟩
  rw [← eC21] at hH kk old al z0 ow0 aq
  have ka0 : C21 a0 = 6 := by rw [eC21, va_up_self]
  have pc6 : (I20 a0 6).toInt = 0 := by rw [ria0]; decide
  have pc7 : I20 a0 7 = 0 := by rw [ria0]; decide
  refine lv_iconst (v := 0) hx hb dX6_init_88 (by decide) ?_
  refine lv_istore_n (lv' := [(1, .int 0), (0, .ref a0)]) hx hb dX6_init_89 rfl hl (by decide) rfl (fun ls hl => ?_)
  refine lv_iload_n hx hb dX6_init_90 rfl (lv_at hl 0 rfl) ?_
  refine lv_bipush (v := 12) hx hb dX6_init_91 (by decide) ?_
  refine lv_icmp_ge (tgt := 127) hx hb dX6_init_93 (by decide) (fun q => absurd q (by decide)) (fun q => ?_)
  refine lv_aload_n hx hb dX6_init_96 rfl (lv_at hl 1 rfl) ?_
  refine hStat hx hb hts hown hH hzFROM kfs_X6_51 dX6_init_97 ?_
  refine lv_iload_n hx hb dX6_init_100 rfl (lv_at hl 0 rfl) ?_
  refine hStatLd (v := 0) hx hb hH htFROM (Rg_in (Rg_c (x := 0) (a := 0) (b := 0) (by decide)) (by decide)) rfl dX6_init_101 ?_
  refine hStat hx hb hts hown hH hzTO kfs_X6_54 dX6_init_102 ?_
  refine lv_iload_n hx hb dX6_init_105 rfl (lv_at hl 0 rfl) ?_
  refine hStatLd (v := 1) hx hb hH htTO (Rg_in (Rg_c (x := 0) (a := 0) (b := 0) (by decide)) (by decide)) rfl dX6_init_106 ?_
  refine hStat hx hb hts hown hH hzCOST kfs_X6_57 dX6_init_107 ?_
  refine lv_iload_n hx hb dX6_init_110 rfl (lv_at hl 0 rfl) ?_
  refine hStatLd (v := 1) hx hb hH htCOST (Rg_in (Rg_c (x := 0) (a := 0) (b := 0) (by decide)) (by decide)) rfl dX6_init_111 ?_
  refine hStat hx hb hts hown hH hzBY kfs_X6_60 dX6_init_112 ?_
  refine lv_iload_n hx hb dX6_init_115 rfl (lv_at hl 0 rfl) ?_
  refine hStatLd (v := 1) hx hb hH htBY (Rg_in (Rg_c (x := 0) (a := 0) (b := 0) (by decide)) (by decide)) rfl dX6_init_116 ?_
  refine lv_iconst (v := 0) hx hb dX6_init_117 (by decide) ?_
  have oRk := kk.2.1
  refine ca_X6_63 hx hb hml hown hts hH (c_X6_keep kk.1 kk.2.1 ma0 ka0 (Rg_c (x := 0) (by decide)) (Rg_c (x := 1) (by decide)) (Rg_c (x := 1) (by decide)) (Rg_c (x := 1) (by decide)) (Rg_c (x := 0) (by decide)) ⟨by rw [pc6]; decide, by rw [pc6]; decide⟩ kk.2.2.1) hl.1 ma0 ka0 rfl (by decide) (Nat.le_of_ble_eq_true rfl) ⟨by decide, by decide⟩ dX6_init_118 (fun I22 J22 R22 H locs hp hH => ?_)
  obtain ⟨⟨oI22, oR22, sc22⟩, eJ22, eR22, -, hx22, hf22⟩ := hp
  obtain rfl : J19 = J22 := eJ22.symm
  obtain rfl : R18 = R22 := eR22.symm
  have kk := KK.sm (u := (I20, J19, R18)) (v := (I22, J19, R18)) kk oI22 oR22 sc22 rfl rfl rfl rfl
  have old := old.sm sc22 hS0 rfl
  have al := AJ.sm (u := (I20, J19, R18)) (v := (I22, J19, R18)) al sc22 rfl
  have z0 := Z0.sm (u := (I20, J19, R18)) (v := (I22, J19, R18)) z0 sc22 rfl (by decide)
  have mq11 : q11 ∈ L17 := (aq.at (i := 0) rfl).1
  have kq11 : C21 q11 = 37 := (aq.at (i := 0) rfl).2
  have fvq11 : I20 q11 = il [] := (aq.val (i := 0) rfl).1 rfl
  have fwq11 : I22 q11 = il [(0, 1)] := by have h9 : I22 q11 = _ := hx22.2.2.2.2.2.2 q11 mq11 kq11; rw [h9, fvq11, clamp_toInt (k := 0) (pc6.trans (by decide))]; rfl
  have mq9 : q9 ∈ L17 := (aq.at (i := 1) rfl).1
  have kq9 : C21 q9 = 36 := (aq.at (i := 1) rfl).2
  have fvq9 : I20 q9 = il [] := (aq.val (i := 1) rfl).1 rfl
  have fwq9 : I22 q9 = il [(0, 0)] := by have h9 : I22 q9 = _ := hx22.2.2.2.2.2.1 q9 mq9 kq9; rw [h9, fvq9, clamp_toInt (k := 0) (pc6.trans (by decide))]; rfl
  have mq7 : q7 ∈ L17 := (aq.at (i := 2) rfl).1
  have kq7 : C21 q7 = 35 := (aq.at (i := 2) rfl).2
  have fvq7 : I20 q7 = il [] := (aq.val (i := 2) rfl).1 rfl
  have fwq7 : I22 q7 = il [(0, 1)] := by have h9 : I22 q7 = _ := hx22.2.2.2.2.1 q7 mq7 kq7; rw [h9, fvq7, clamp_toInt (k := 0) (pc6.trans (by decide))]; rfl
  have mq5 : q5 ∈ L17 := (aq.at (i := 3) rfl).1
  have kq5 : C21 q5 = 34 := (aq.at (i := 3) rfl).2
  have fvq5 : I20 q5 = il [] := (aq.val (i := 3) rfl).1 rfl
  have fwq5 : I22 q5 = il [(0, 1)] := by have h9 : I22 q5 = _ := hx22.2.2.2.1 q5 mq5 kq5; rw [h9, fvq5, clamp_toInt (k := 0) (pc6.trans (by decide))]; rfl
  have mq3 : q3 ∈ L17 := (aq.at (i := 4) rfl).1
  have kq3 : C21 q3 = 33 := (aq.at (i := 4) rfl).2
  have fvq3 : I20 q3 = il [] := (aq.val (i := 4) rfl).1 rfl
  have fwq3 : I22 q3 = il [(0, 1)] := by have h9 : I22 q3 = _ := hx22.2.2.1 q3 mq3 kq3; rw [h9, fvq3, clamp_toInt (k := 0) (pc6.trans (by decide))]; rfl
  have mq1 : q1 ∈ L17 := (aq.at (i := 5) rfl).1
  have kq1 : C21 q1 = 32 := (aq.at (i := 5) rfl).2
  have fvq1 : I20 q1 = il [] := (aq.val (i := 5) rfl).1 rfl
  have fwq1 : I22 q1 = il [(0, 0)] := by have h9 : I22 q1 = _ := hx22.2.1 q1 mq1 kq1; rw [h9, fvq1, clamp_toInt (k := 0) (pc6.trans (by decide))]; rfl
  have aq := (AJ.cons (AJ.cons (AJ.cons (AJ.cons (AJ.cons (AJ.cons AJ.nil mq1 kq1 rfl (Fc.row fwq1)) mq3 kq3 rfl (Fc.row fwq3)) mq5 kq5 rfl (Fc.row fwq5)) mq7 kq7 rfl (Fc.row fwq7)) mq9 kq9 rfl (Fc.row fwq9)) mq11 kq11 rfl (Fc.row fwq11))
  have pc6 : (I22 a0 6).toInt = 1 := hx22.1.1.trans (by rw [pc6]; decide)
  have pc7 : I22 a0 7 = 1 := (heldK oRk ma0 ka0 hf22).trans (by rw [pc7]; decide)
  refine lv_iinc (v := 1) (lv' := [(1, .int 1), (0, .ref a0)]) hx hb dX6_init_121 hl (k := 0) rfl (by decide) (by decide) rfl (fun ls hl => ?_)
  refine lv_goto (tgt := 90) hx hb dX6_init_124 (by decide) ?_
  refine lv_iload_n hx hb dX6_init_90 rfl (lv_at hl 0 rfl) ?_
  refine lv_bipush (v := 12) hx hb dX6_init_91 (by decide) ?_
  refine lv_icmp_ge (tgt := 127) hx hb dX6_init_93 (by decide) (fun q => absurd q (by decide)) (fun q => ?_)
  refine lv_aload_n hx hb dX6_init_96 rfl (lv_at hl 1 rfl) ?_
  refine hStat hx hb hts hown hH hzFROM kfs_X6_51 dX6_init_97 ?_
  refine lv_iload_n hx hb dX6_init_100 rfl (lv_at hl 0 rfl) ?_
  refine hStatLd (v := 1) hx hb hH htFROM (Rg_in (Rg_c (x := 1) (a := 1) (b := 1) (by decide)) (by decide)) rfl dX6_init_101 ?_
  refine hStat hx hb hts hown hH hzTO kfs_X6_54 dX6_init_102 ?_
  refine lv_iload_n hx hb dX6_init_105 rfl (lv_at hl 0 rfl) ?_
  refine hStatLd (v := 2) hx hb hH htTO (Rg_in (Rg_c (x := 1) (a := 1) (b := 1) (by decide)) (by decide)) rfl dX6_init_106 ?_
  refine hStat hx hb hts hown hH hzCOST kfs_X6_57 dX6_init_107 ?_
  refine lv_iload_n hx hb dX6_init_110 rfl (lv_at hl 0 rfl) ?_
  refine hStatLd (v := 1) hx hb hH htCOST (Rg_in (Rg_c (x := 1) (a := 1) (b := 1) (by decide)) (by decide)) rfl dX6_init_111 ?_
  refine hStat hx hb hts hown hH hzBY kfs_X6_60 dX6_init_112 ?_
  refine lv_iload_n hx hb dX6_init_115 rfl (lv_at hl 0 rfl) ?_
  refine hStatLd (v := 1) hx hb hH htBY (Rg_in (Rg_c (x := 1) (a := 1) (b := 1) (by decide)) (by decide)) rfl dX6_init_116 ?_
  refine lv_iconst (v := 0) hx hb dX6_init_117 (by decide) ?_
  have oRk := kk.2.1
  refine ca_X6_63 hx hb hml hown hts hH (c_X6_keep kk.1 kk.2.1 ma0 ka0 (Rg_c (x := 1) (by decide)) (Rg_c (x := 2) (by decide)) (Rg_c (x := 1) (by decide)) (Rg_c (x := 1) (by decide)) (Rg_c (x := 0) (by decide)) ⟨by rw [pc6]; decide, by rw [pc6]; decide⟩ kk.2.2.1) hl.1 ma0 ka0 rfl (by decide) (Nat.le_of_ble_eq_true rfl) ⟨by decide, by decide⟩ dX6_init_118 (fun I23 J23 R23 H locs hp hH => ?_)
  obtain ⟨⟨oI23, oR23, sc23⟩, eJ23, eR23, -, hx23, hf23⟩ := hp
  obtain rfl : J19 = J23 := eJ23.symm
  obtain rfl : R18 = R23 := eR23.symm
  have kk := KK.sm (u := (I22, J19, R18)) (v := (I23, J19, R18)) kk oI23 oR23 sc23 rfl rfl rfl rfl
  have old := old.sm sc23 hS0 rfl
  have al := AJ.sm (u := (I22, J19, R18)) (v := (I23, J19, R18)) al sc23 rfl
  have z0 := Z0.sm (u := (I22, J19, R18)) (v := (I23, J19, R18)) z0 sc23 rfl (by decide)
  have mq11 : q11 ∈ L17 := (aq.at (i := 0) rfl).1
  have kq11 : C21 q11 = 37 := (aq.at (i := 0) rfl).2
  have fvq11 : I22 q11 = il [(0, 1)] := (aq.val (i := 0) rfl).1 rfl
  have fwq11 : I23 q11 = il [(1, 1), (0, 1)] := by have h9 : I23 q11 = _ := hx23.2.2.2.2.2.2 q11 mq11 kq11; rw [h9, fvq11, clamp_toInt (k := 1) (pc6.trans (by decide))]; rfl
  have mq9 : q9 ∈ L17 := (aq.at (i := 1) rfl).1
  have kq9 : C21 q9 = 36 := (aq.at (i := 1) rfl).2
  have fvq9 : I22 q9 = il [(0, 0)] := (aq.val (i := 1) rfl).1 rfl
  have fwq9 : I23 q9 = il [(1, 0), (0, 0)] := by have h9 : I23 q9 = _ := hx23.2.2.2.2.2.1 q9 mq9 kq9; rw [h9, fvq9, clamp_toInt (k := 1) (pc6.trans (by decide))]; rfl
  have mq7 : q7 ∈ L17 := (aq.at (i := 2) rfl).1
  have kq7 : C21 q7 = 35 := (aq.at (i := 2) rfl).2
  have fvq7 : I22 q7 = il [(0, 1)] := (aq.val (i := 2) rfl).1 rfl
  have fwq7 : I23 q7 = il [(1, 1), (0, 1)] := by have h9 : I23 q7 = _ := hx23.2.2.2.2.1 q7 mq7 kq7; rw [h9, fvq7, clamp_toInt (k := 1) (pc6.trans (by decide))]; rfl
  have mq5 : q5 ∈ L17 := (aq.at (i := 3) rfl).1
  have kq5 : C21 q5 = 34 := (aq.at (i := 3) rfl).2
  have fvq5 : I22 q5 = il [(0, 1)] := (aq.val (i := 3) rfl).1 rfl
  have fwq5 : I23 q5 = il [(1, 1), (0, 1)] := by have h9 : I23 q5 = _ := hx23.2.2.2.1 q5 mq5 kq5; rw [h9, fvq5, clamp_toInt (k := 1) (pc6.trans (by decide))]; rfl
  have mq3 : q3 ∈ L17 := (aq.at (i := 4) rfl).1
  have kq3 : C21 q3 = 33 := (aq.at (i := 4) rfl).2
  have fvq3 : I22 q3 = il [(0, 1)] := (aq.val (i := 4) rfl).1 rfl
  have fwq3 : I23 q3 = il [(1, 2), (0, 1)] := by have h9 : I23 q3 = _ := hx23.2.2.1 q3 mq3 kq3; rw [h9, fvq3, clamp_toInt (k := 1) (pc6.trans (by decide))]; rfl
  have mq1 : q1 ∈ L17 := (aq.at (i := 5) rfl).1
  have kq1 : C21 q1 = 32 := (aq.at (i := 5) rfl).2
  have fvq1 : I22 q1 = il [(0, 0)] := (aq.val (i := 5) rfl).1 rfl
  have fwq1 : I23 q1 = il [(1, 1), (0, 0)] := by have h9 : I23 q1 = _ := hx23.2.1 q1 mq1 kq1; rw [h9, fvq1, clamp_toInt (k := 1) (pc6.trans (by decide))]; rfl
  have aq := (AJ.cons (AJ.cons (AJ.cons (AJ.cons (AJ.cons (AJ.cons AJ.nil mq1 kq1 rfl (Fc.row fwq1)) mq3 kq3 rfl (Fc.row fwq3)) mq5 kq5 rfl (Fc.row fwq5)) mq7 kq7 rfl (Fc.row fwq7)) mq9 kq9 rfl (Fc.row fwq9)) mq11 kq11 rfl (Fc.row fwq11))
  have pc6 : (I23 a0 6).toInt = 2 := hx23.1.1.trans (by rw [pc6]; decide)
  have pc7 : I23 a0 7 = 2 := (heldK oRk ma0 ka0 hf23).trans (by rw [pc7]; decide)
  refine lv_iinc (v := 2) (lv' := [(1, .int 2), (0, .ref a0)]) hx hb dX6_init_121 hl (k := 0) rfl (by decide) (by decide) rfl (fun ls hl => ?_)
  refine lv_goto (tgt := 90) hx hb dX6_init_124 (by decide) ?_
  refine lv_iload_n hx hb dX6_init_90 rfl (lv_at hl 0 rfl) ?_
  refine lv_bipush (v := 12) hx hb dX6_init_91 (by decide) ?_
  refine lv_icmp_ge (tgt := 127) hx hb dX6_init_93 (by decide) (fun q => absurd q (by decide)) (fun q => ?_)
  refine lv_aload_n hx hb dX6_init_96 rfl (lv_at hl 1 rfl) ?_
  refine hStat hx hb hts hown hH hzFROM kfs_X6_51 dX6_init_97 ?_
  refine lv_iload_n hx hb dX6_init_100 rfl (lv_at hl 0 rfl) ?_
  refine hStatLd (v := 2) hx hb hH htFROM (Rg_in (Rg_c (x := 2) (a := 2) (b := 2) (by decide)) (by decide)) rfl dX6_init_101 ?_
  refine hStat hx hb hts hown hH hzTO kfs_X6_54 dX6_init_102 ?_
  refine lv_iload_n hx hb dX6_init_105 rfl (lv_at hl 0 rfl) ?_
  refine hStatLd (v := 3) hx hb hH htTO (Rg_in (Rg_c (x := 2) (a := 2) (b := 2) (by decide)) (by decide)) rfl dX6_init_106 ?_
  refine hStat hx hb hts hown hH hzCOST kfs_X6_57 dX6_init_107 ?_
  refine lv_iload_n hx hb dX6_init_110 rfl (lv_at hl 0 rfl) ?_
  refine hStatLd (v := 1) hx hb hH htCOST (Rg_in (Rg_c (x := 2) (a := 2) (b := 2) (by decide)) (by decide)) rfl dX6_init_111 ?_
  refine hStat hx hb hts hown hH hzBY kfs_X6_60 dX6_init_112 ?_
  refine lv_iload_n hx hb dX6_init_115 rfl (lv_at hl 0 rfl) ?_
  refine hStatLd (v := 1) hx hb hH htBY (Rg_in (Rg_c (x := 2) (a := 2) (b := 2) (by decide)) (by decide)) rfl dX6_init_116 ?_
  refine lv_iconst (v := 0) hx hb dX6_init_117 (by decide) ?_
  have oRk := kk.2.1
  refine ca_X6_63 hx hb hml hown hts hH (c_X6_keep kk.1 kk.2.1 ma0 ka0 (Rg_c (x := 2) (by decide)) (Rg_c (x := 3) (by decide)) (Rg_c (x := 1) (by decide)) (Rg_c (x := 1) (by decide)) (Rg_c (x := 0) (by decide)) ⟨by rw [pc6]; decide, by rw [pc6]; decide⟩ kk.2.2.1) hl.1 ma0 ka0 rfl (by decide) (Nat.le_of_ble_eq_true rfl) ⟨by decide, by decide⟩ dX6_init_118 (fun I24 J24 R24 H locs hp hH => ?_)
  obtain ⟨⟨oI24, oR24, sc24⟩, eJ24, eR24, -, hx24, hf24⟩ := hp
  obtain rfl : J19 = J24 := eJ24.symm
  obtain rfl : R18 = R24 := eR24.symm
  have kk := KK.sm (u := (I23, J19, R18)) (v := (I24, J19, R18)) kk oI24 oR24 sc24 rfl rfl rfl rfl
  have old := old.sm sc24 hS0 rfl
  have al := AJ.sm (u := (I23, J19, R18)) (v := (I24, J19, R18)) al sc24 rfl
  have z0 := Z0.sm (u := (I23, J19, R18)) (v := (I24, J19, R18)) z0 sc24 rfl (by decide)
  have mq11 : q11 ∈ L17 := (aq.at (i := 0) rfl).1
  have kq11 : C21 q11 = 37 := (aq.at (i := 0) rfl).2
  have fvq11 : I23 q11 = il [(1, 1), (0, 1)] := (aq.val (i := 0) rfl).1 rfl
  have fwq11 : I24 q11 = il [(2, 1), (1, 1), (0, 1)] := by have h9 : I24 q11 = _ := hx24.2.2.2.2.2.2 q11 mq11 kq11; rw [h9, fvq11, clamp_toInt (k := 2) (pc6.trans (by decide))]; rfl
  have mq9 : q9 ∈ L17 := (aq.at (i := 1) rfl).1
  have kq9 : C21 q9 = 36 := (aq.at (i := 1) rfl).2
  have fvq9 : I23 q9 = il [(1, 0), (0, 0)] := (aq.val (i := 1) rfl).1 rfl
  have fwq9 : I24 q9 = il [(2, 0), (1, 0), (0, 0)] := by have h9 : I24 q9 = _ := hx24.2.2.2.2.2.1 q9 mq9 kq9; rw [h9, fvq9, clamp_toInt (k := 2) (pc6.trans (by decide))]; rfl
  have mq7 : q7 ∈ L17 := (aq.at (i := 2) rfl).1
  have kq7 : C21 q7 = 35 := (aq.at (i := 2) rfl).2
  have fvq7 : I23 q7 = il [(1, 1), (0, 1)] := (aq.val (i := 2) rfl).1 rfl
  have fwq7 : I24 q7 = il [(2, 1), (1, 1), (0, 1)] := by have h9 : I24 q7 = _ := hx24.2.2.2.2.1 q7 mq7 kq7; rw [h9, fvq7, clamp_toInt (k := 2) (pc6.trans (by decide))]; rfl
  have mq5 : q5 ∈ L17 := (aq.at (i := 3) rfl).1
  have kq5 : C21 q5 = 34 := (aq.at (i := 3) rfl).2
  have fvq5 : I23 q5 = il [(1, 1), (0, 1)] := (aq.val (i := 3) rfl).1 rfl
  have fwq5 : I24 q5 = il [(2, 1), (1, 1), (0, 1)] := by have h9 : I24 q5 = _ := hx24.2.2.2.1 q5 mq5 kq5; rw [h9, fvq5, clamp_toInt (k := 2) (pc6.trans (by decide))]; rfl
  have mq3 : q3 ∈ L17 := (aq.at (i := 4) rfl).1
  have kq3 : C21 q3 = 33 := (aq.at (i := 4) rfl).2
  have fvq3 : I23 q3 = il [(1, 2), (0, 1)] := (aq.val (i := 4) rfl).1 rfl
  have fwq3 : I24 q3 = il [(2, 3), (1, 2), (0, 1)] := by have h9 : I24 q3 = _ := hx24.2.2.1 q3 mq3 kq3; rw [h9, fvq3, clamp_toInt (k := 2) (pc6.trans (by decide))]; rfl
  have mq1 : q1 ∈ L17 := (aq.at (i := 5) rfl).1
  have kq1 : C21 q1 = 32 := (aq.at (i := 5) rfl).2
  have fvq1 : I23 q1 = il [(1, 1), (0, 0)] := (aq.val (i := 5) rfl).1 rfl
  have fwq1 : I24 q1 = il [(2, 2), (1, 1), (0, 0)] := by have h9 : I24 q1 = _ := hx24.2.1 q1 mq1 kq1; rw [h9, fvq1, clamp_toInt (k := 2) (pc6.trans (by decide))]; rfl
  have aq := (AJ.cons (AJ.cons (AJ.cons (AJ.cons (AJ.cons (AJ.cons AJ.nil mq1 kq1 rfl (Fc.row fwq1)) mq3 kq3 rfl (Fc.row fwq3)) mq5 kq5 rfl (Fc.row fwq5)) mq7 kq7 rfl (Fc.row fwq7)) mq9 kq9 rfl (Fc.row fwq9)) mq11 kq11 rfl (Fc.row fwq11))
  have pc6 : (I24 a0 6).toInt = 3 := hx24.1.1.trans (by rw [pc6]; decide)
  have pc7 : I24 a0 7 = 3 := (heldK oRk ma0 ka0 hf24).trans (by rw [pc7]; decide)
  refine lv_iinc (v := 3) (lv' := [(1, .int 3), (0, .ref a0)]) hx hb dX6_init_121 hl (k := 0) rfl (by decide) (by decide) rfl (fun ls hl => ?_)
  refine lv_goto (tgt := 90) hx hb dX6_init_124 (by decide) ?_
  refine lv_iload_n hx hb dX6_init_90 rfl (lv_at hl 0 rfl) ?_
  refine lv_bipush (v := 12) hx hb dX6_init_91 (by decide) ?_
  refine lv_icmp_ge (tgt := 127) hx hb dX6_init_93 (by decide) (fun q => absurd q (by decide)) (fun q => ?_)
  refine lv_aload_n hx hb dX6_init_96 rfl (lv_at hl 1 rfl) ?_
  refine hStat hx hb hts hown hH hzFROM kfs_X6_51 dX6_init_97 ?_
  refine lv_iload_n hx hb dX6_init_100 rfl (lv_at hl 0 rfl) ?_
  refine hStatLd (v := 3) hx hb hH htFROM (Rg_in (Rg_c (x := 3) (a := 3) (b := 3) (by decide)) (by decide)) rfl dX6_init_101 ?_
  refine hStat hx hb hts hown hH hzTO kfs_X6_54 dX6_init_102 ?_
  refine lv_iload_n hx hb dX6_init_105 rfl (lv_at hl 0 rfl) ?_
  refine hStatLd (v := 2) hx hb hH htTO (Rg_in (Rg_c (x := 3) (a := 3) (b := 3) (by decide)) (by decide)) rfl dX6_init_106 ?_
  refine hStat hx hb hts hown hH hzCOST kfs_X6_57 dX6_init_107 ?_
  refine lv_iload_n hx hb dX6_init_110 rfl (lv_at hl 0 rfl) ?_
  refine hStatLd (v := 5) hx hb hH htCOST (Rg_in (Rg_c (x := 3) (a := 3) (b := 3) (by decide)) (by decide)) rfl dX6_init_111 ?_
  refine hStat hx hb hts hown hH hzBY kfs_X6_60 dX6_init_112 ?_
  refine lv_iload_n hx hb dX6_init_115 rfl (lv_at hl 0 rfl) ?_
  refine hStatLd (v := 1) hx hb hH htBY (Rg_in (Rg_c (x := 3) (a := 3) (b := 3) (by decide)) (by decide)) rfl dX6_init_116 ?_
  refine lv_iconst (v := 0) hx hb dX6_init_117 (by decide) ?_
  have oRk := kk.2.1
  refine ca_X6_63 hx hb hml hown hts hH (c_X6_keep kk.1 kk.2.1 ma0 ka0 (Rg_c (x := 3) (by decide)) (Rg_c (x := 2) (by decide)) (Rg_c (x := 5) (by decide)) (Rg_c (x := 1) (by decide)) (Rg_c (x := 0) (by decide)) ⟨by rw [pc6]; decide, by rw [pc6]; decide⟩ kk.2.2.1) hl.1 ma0 ka0 rfl (by decide) (Nat.le_of_ble_eq_true rfl) ⟨by decide, by decide⟩ dX6_init_118 (fun I25 J25 R25 H locs hp hH => ?_)
  obtain ⟨⟨oI25, oR25, sc25⟩, eJ25, eR25, -, hx25, hf25⟩ := hp
  obtain rfl : J19 = J25 := eJ25.symm
  obtain rfl : R18 = R25 := eR25.symm
  have kk := KK.sm (u := (I24, J19, R18)) (v := (I25, J19, R18)) kk oI25 oR25 sc25 rfl rfl rfl rfl
  have old := old.sm sc25 hS0 rfl
  have al := AJ.sm (u := (I24, J19, R18)) (v := (I25, J19, R18)) al sc25 rfl
  have z0 := Z0.sm (u := (I24, J19, R18)) (v := (I25, J19, R18)) z0 sc25 rfl (by decide)
  have mq11 : q11 ∈ L17 := (aq.at (i := 0) rfl).1
  have kq11 : C21 q11 = 37 := (aq.at (i := 0) rfl).2
  have fvq11 : I24 q11 = il [(2, 1), (1, 1), (0, 1)] := (aq.val (i := 0) rfl).1 rfl
  have fwq11 : I25 q11 = il [(3, 1), (2, 1), (1, 1), (0, 1)] := by have h9 : I25 q11 = _ := hx25.2.2.2.2.2.2 q11 mq11 kq11; rw [h9, fvq11, clamp_toInt (k := 3) (pc6.trans (by decide))]; rfl
  have mq9 : q9 ∈ L17 := (aq.at (i := 1) rfl).1
  have kq9 : C21 q9 = 36 := (aq.at (i := 1) rfl).2
  have fvq9 : I24 q9 = il [(2, 0), (1, 0), (0, 0)] := (aq.val (i := 1) rfl).1 rfl
  have fwq9 : I25 q9 = il [(3, 0), (2, 0), (1, 0), (0, 0)] := by have h9 : I25 q9 = _ := hx25.2.2.2.2.2.1 q9 mq9 kq9; rw [h9, fvq9, clamp_toInt (k := 3) (pc6.trans (by decide))]; rfl
  have mq7 : q7 ∈ L17 := (aq.at (i := 2) rfl).1
  have kq7 : C21 q7 = 35 := (aq.at (i := 2) rfl).2
  have fvq7 : I24 q7 = il [(2, 1), (1, 1), (0, 1)] := (aq.val (i := 2) rfl).1 rfl
  have fwq7 : I25 q7 = il [(3, 1), (2, 1), (1, 1), (0, 1)] := by have h9 : I25 q7 = _ := hx25.2.2.2.2.1 q7 mq7 kq7; rw [h9, fvq7, clamp_toInt (k := 3) (pc6.trans (by decide))]; rfl
  have mq5 : q5 ∈ L17 := (aq.at (i := 3) rfl).1
  have kq5 : C21 q5 = 34 := (aq.at (i := 3) rfl).2
  have fvq5 : I24 q5 = il [(2, 1), (1, 1), (0, 1)] := (aq.val (i := 3) rfl).1 rfl
  have fwq5 : I25 q5 = il [(3, 5), (2, 1), (1, 1), (0, 1)] := by have h9 : I25 q5 = _ := hx25.2.2.2.1 q5 mq5 kq5; rw [h9, fvq5, clamp_toInt (k := 3) (pc6.trans (by decide))]; rfl
  have mq3 : q3 ∈ L17 := (aq.at (i := 4) rfl).1
  have kq3 : C21 q3 = 33 := (aq.at (i := 4) rfl).2
  have fvq3 : I24 q3 = il [(2, 3), (1, 2), (0, 1)] := (aq.val (i := 4) rfl).1 rfl
  have fwq3 : I25 q3 = il [(3, 2), (2, 3), (1, 2), (0, 1)] := by have h9 : I25 q3 = _ := hx25.2.2.1 q3 mq3 kq3; rw [h9, fvq3, clamp_toInt (k := 3) (pc6.trans (by decide))]; rfl
  have mq1 : q1 ∈ L17 := (aq.at (i := 5) rfl).1
  have kq1 : C21 q1 = 32 := (aq.at (i := 5) rfl).2
  have fvq1 : I24 q1 = il [(2, 2), (1, 1), (0, 0)] := (aq.val (i := 5) rfl).1 rfl
  have fwq1 : I25 q1 = il [(3, 3), (2, 2), (1, 1), (0, 0)] := by have h9 : I25 q1 = _ := hx25.2.1 q1 mq1 kq1; rw [h9, fvq1, clamp_toInt (k := 3) (pc6.trans (by decide))]; rfl
  have aq := (AJ.cons (AJ.cons (AJ.cons (AJ.cons (AJ.cons (AJ.cons AJ.nil mq1 kq1 rfl (Fc.row fwq1)) mq3 kq3 rfl (Fc.row fwq3)) mq5 kq5 rfl (Fc.row fwq5)) mq7 kq7 rfl (Fc.row fwq7)) mq9 kq9 rfl (Fc.row fwq9)) mq11 kq11 rfl (Fc.row fwq11))
  have pc6 : (I25 a0 6).toInt = 4 := hx25.1.1.trans (by rw [pc6]; decide)
  have pc7 : I25 a0 7 = 4 := (heldK oRk ma0 ka0 hf25).trans (by rw [pc7]; decide)
  refine lv_iinc (v := 4) (lv' := [(1, .int 4), (0, .ref a0)]) hx hb dX6_init_121 hl (k := 0) rfl (by decide) (by decide) rfl (fun ls hl => ?_)
  refine lv_goto (tgt := 90) hx hb dX6_init_124 (by decide) ?_
  refine lv_iload_n hx hb dX6_init_90 rfl (lv_at hl 0 rfl) ?_
  refine lv_bipush (v := 12) hx hb dX6_init_91 (by decide) ?_
  refine lv_icmp_ge (tgt := 127) hx hb dX6_init_93 (by decide) (fun q => absurd q (by decide)) (fun q => ?_)
  refine lv_aload_n hx hb dX6_init_96 rfl (lv_at hl 1 rfl) ?_
  refine hStat hx hb hts hown hH hzFROM kfs_X6_51 dX6_init_97 ?_
  refine lv_iload_n hx hb dX6_init_100 rfl (lv_at hl 0 rfl) ?_
  refine hStatLd (v := 2) hx hb hH htFROM (Rg_in (Rg_c (x := 4) (a := 4) (b := 4) (by decide)) (by decide)) rfl dX6_init_101 ?_
  refine hStat hx hb hts hown hH hzTO kfs_X6_54 dX6_init_102 ?_
  refine lv_iload_n hx hb dX6_init_105 rfl (lv_at hl 0 rfl) ?_
  refine hStatLd (v := 1) hx hb hH htTO (Rg_in (Rg_c (x := 4) (a := 4) (b := 4) (by decide)) (by decide)) rfl dX6_init_106 ?_
  refine hStat hx hb hts hown hH hzCOST kfs_X6_57 dX6_init_107 ?_
  refine lv_iload_n hx hb dX6_init_110 rfl (lv_at hl 0 rfl) ?_
  refine hStatLd (v := 5) hx hb hH htCOST (Rg_in (Rg_c (x := 4) (a := 4) (b := 4) (by decide)) (by decide)) rfl dX6_init_111 ?_
  refine hStat hx hb hts hown hH hzBY kfs_X6_60 dX6_init_112 ?_
  refine lv_iload_n hx hb dX6_init_115 rfl (lv_at hl 0 rfl) ?_
  refine hStatLd (v := 1) hx hb hH htBY (Rg_in (Rg_c (x := 4) (a := 4) (b := 4) (by decide)) (by decide)) rfl dX6_init_116 ?_
  refine lv_iconst (v := 0) hx hb dX6_init_117 (by decide) ?_
  have oRk := kk.2.1
  refine ca_X6_63 hx hb hml hown hts hH (c_X6_keep kk.1 kk.2.1 ma0 ka0 (Rg_c (x := 2) (by decide)) (Rg_c (x := 1) (by decide)) (Rg_c (x := 5) (by decide)) (Rg_c (x := 1) (by decide)) (Rg_c (x := 0) (by decide)) ⟨by rw [pc6]; decide, by rw [pc6]; decide⟩ kk.2.2.1) hl.1 ma0 ka0 rfl (by decide) (Nat.le_of_ble_eq_true rfl) ⟨by decide, by decide⟩ dX6_init_118 (fun I26 J26 R26 H locs hp hH => ?_)
  obtain ⟨⟨oI26, oR26, sc26⟩, eJ26, eR26, -, hx26, hf26⟩ := hp
  obtain rfl : J19 = J26 := eJ26.symm
  obtain rfl : R18 = R26 := eR26.symm
  have kk := KK.sm (u := (I25, J19, R18)) (v := (I26, J19, R18)) kk oI26 oR26 sc26 rfl rfl rfl rfl
  have old := old.sm sc26 hS0 rfl
  have al := AJ.sm (u := (I25, J19, R18)) (v := (I26, J19, R18)) al sc26 rfl
  have z0 := Z0.sm (u := (I25, J19, R18)) (v := (I26, J19, R18)) z0 sc26 rfl (by decide)
  have mq11 : q11 ∈ L17 := (aq.at (i := 0) rfl).1
  have kq11 : C21 q11 = 37 := (aq.at (i := 0) rfl).2
  have fvq11 : I25 q11 = il [(3, 1), (2, 1), (1, 1), (0, 1)] := (aq.val (i := 0) rfl).1 rfl
  have fwq11 : I26 q11 = il [(4, 1), (3, 1), (2, 1), (1, 1), (0, 1)] := by have h9 : I26 q11 = _ := hx26.2.2.2.2.2.2 q11 mq11 kq11; rw [h9, fvq11, clamp_toInt (k := 4) (pc6.trans (by decide))]; rfl
  have mq9 : q9 ∈ L17 := (aq.at (i := 1) rfl).1
  have kq9 : C21 q9 = 36 := (aq.at (i := 1) rfl).2
  have fvq9 : I25 q9 = il [(3, 0), (2, 0), (1, 0), (0, 0)] := (aq.val (i := 1) rfl).1 rfl
  have fwq9 : I26 q9 = il [(4, 0), (3, 0), (2, 0), (1, 0), (0, 0)] := by have h9 : I26 q9 = _ := hx26.2.2.2.2.2.1 q9 mq9 kq9; rw [h9, fvq9, clamp_toInt (k := 4) (pc6.trans (by decide))]; rfl
  have mq7 : q7 ∈ L17 := (aq.at (i := 2) rfl).1
  have kq7 : C21 q7 = 35 := (aq.at (i := 2) rfl).2
  have fvq7 : I25 q7 = il [(3, 1), (2, 1), (1, 1), (0, 1)] := (aq.val (i := 2) rfl).1 rfl
  have fwq7 : I26 q7 = il [(4, 1), (3, 1), (2, 1), (1, 1), (0, 1)] := by have h9 : I26 q7 = _ := hx26.2.2.2.2.1 q7 mq7 kq7; rw [h9, fvq7, clamp_toInt (k := 4) (pc6.trans (by decide))]; rfl
  have mq5 : q5 ∈ L17 := (aq.at (i := 3) rfl).1
  have kq5 : C21 q5 = 34 := (aq.at (i := 3) rfl).2
  have fvq5 : I25 q5 = il [(3, 5), (2, 1), (1, 1), (0, 1)] := (aq.val (i := 3) rfl).1 rfl
  have fwq5 : I26 q5 = il [(4, 5), (3, 5), (2, 1), (1, 1), (0, 1)] := by have h9 : I26 q5 = _ := hx26.2.2.2.1 q5 mq5 kq5; rw [h9, fvq5, clamp_toInt (k := 4) (pc6.trans (by decide))]; rfl
  have mq3 : q3 ∈ L17 := (aq.at (i := 4) rfl).1
  have kq3 : C21 q3 = 33 := (aq.at (i := 4) rfl).2
  have fvq3 : I25 q3 = il [(3, 2), (2, 3), (1, 2), (0, 1)] := (aq.val (i := 4) rfl).1 rfl
  have fwq3 : I26 q3 = il [(4, 1), (3, 2), (2, 3), (1, 2), (0, 1)] := by have h9 : I26 q3 = _ := hx26.2.2.1 q3 mq3 kq3; rw [h9, fvq3, clamp_toInt (k := 4) (pc6.trans (by decide))]; rfl
  have mq1 : q1 ∈ L17 := (aq.at (i := 5) rfl).1
  have kq1 : C21 q1 = 32 := (aq.at (i := 5) rfl).2
  have fvq1 : I25 q1 = il [(3, 3), (2, 2), (1, 1), (0, 0)] := (aq.val (i := 5) rfl).1 rfl
  have fwq1 : I26 q1 = il [(4, 2), (3, 3), (2, 2), (1, 1), (0, 0)] := by have h9 : I26 q1 = _ := hx26.2.1 q1 mq1 kq1; rw [h9, fvq1, clamp_toInt (k := 4) (pc6.trans (by decide))]; rfl
  have aq := (AJ.cons (AJ.cons (AJ.cons (AJ.cons (AJ.cons (AJ.cons AJ.nil mq1 kq1 rfl (Fc.row fwq1)) mq3 kq3 rfl (Fc.row fwq3)) mq5 kq5 rfl (Fc.row fwq5)) mq7 kq7 rfl (Fc.row fwq7)) mq9 kq9 rfl (Fc.row fwq9)) mq11 kq11 rfl (Fc.row fwq11))
  have pc6 : (I26 a0 6).toInt = 5 := hx26.1.1.trans (by rw [pc6]; decide)
  have pc7 : I26 a0 7 = 5 := (heldK oRk ma0 ka0 hf26).trans (by rw [pc7]; decide)
  refine lv_iinc (v := 5) (lv' := [(1, .int 5), (0, .ref a0)]) hx hb dX6_init_121 hl (k := 0) rfl (by decide) (by decide) rfl (fun ls hl => ?_)
  refine lv_goto (tgt := 90) hx hb dX6_init_124 (by decide) ?_
  refine lv_iload_n hx hb dX6_init_90 rfl (lv_at hl 0 rfl) ?_
  refine lv_bipush (v := 12) hx hb dX6_init_91 (by decide) ?_
  refine lv_icmp_ge (tgt := 127) hx hb dX6_init_93 (by decide) (fun q => absurd q (by decide)) (fun q => ?_)
  refine lv_aload_n hx hb dX6_init_96 rfl (lv_at hl 1 rfl) ?_
  refine hStat hx hb hts hown hH hzFROM kfs_X6_51 dX6_init_97 ?_
  refine lv_iload_n hx hb dX6_init_100 rfl (lv_at hl 0 rfl) ?_
  refine hStatLd (v := 1) hx hb hH htFROM (Rg_in (Rg_c (x := 5) (a := 5) (b := 5) (by decide)) (by decide)) rfl dX6_init_101 ?_
  refine hStat hx hb hts hown hH hzTO kfs_X6_54 dX6_init_102 ?_
  refine lv_iload_n hx hb dX6_init_105 rfl (lv_at hl 0 rfl) ?_
  refine hStatLd (v := 0) hx hb hH htTO (Rg_in (Rg_c (x := 5) (a := 5) (b := 5) (by decide)) (by decide)) rfl dX6_init_106 ?_
  refine hStat hx hb hts hown hH hzCOST kfs_X6_57 dX6_init_107 ?_
  refine lv_iload_n hx hb dX6_init_110 rfl (lv_at hl 0 rfl) ?_
  refine hStatLd (v := 5) hx hb hH htCOST (Rg_in (Rg_c (x := 5) (a := 5) (b := 5) (by decide)) (by decide)) rfl dX6_init_111 ?_
  refine hStat hx hb hts hown hH hzBY kfs_X6_60 dX6_init_112 ?_
  refine lv_iload_n hx hb dX6_init_115 rfl (lv_at hl 0 rfl) ?_
  refine hStatLd (v := 1) hx hb hH htBY (Rg_in (Rg_c (x := 5) (a := 5) (b := 5) (by decide)) (by decide)) rfl dX6_init_116 ?_
  refine lv_iconst (v := 0) hx hb dX6_init_117 (by decide) ?_
  have oRk := kk.2.1
  refine ca_X6_63 hx hb hml hown hts hH (c_X6_keep kk.1 kk.2.1 ma0 ka0 (Rg_c (x := 1) (by decide)) (Rg_c (x := 0) (by decide)) (Rg_c (x := 5) (by decide)) (Rg_c (x := 1) (by decide)) (Rg_c (x := 0) (by decide)) ⟨by rw [pc6]; decide, by rw [pc6]; decide⟩ kk.2.2.1) hl.1 ma0 ka0 rfl (by decide) (Nat.le_of_ble_eq_true rfl) ⟨by decide, by decide⟩ dX6_init_118 (fun I27 J27 R27 H locs hp hH => ?_)
  obtain ⟨⟨oI27, oR27, sc27⟩, eJ27, eR27, -, hx27, hf27⟩ := hp
  obtain rfl : J19 = J27 := eJ27.symm
  obtain rfl : R18 = R27 := eR27.symm
  have kk := KK.sm (u := (I26, J19, R18)) (v := (I27, J19, R18)) kk oI27 oR27 sc27 rfl rfl rfl rfl
  have old := old.sm sc27 hS0 rfl
  have al := AJ.sm (u := (I26, J19, R18)) (v := (I27, J19, R18)) al sc27 rfl
  have z0 := Z0.sm (u := (I26, J19, R18)) (v := (I27, J19, R18)) z0 sc27 rfl (by decide)
  have mq11 : q11 ∈ L17 := (aq.at (i := 0) rfl).1
  have kq11 : C21 q11 = 37 := (aq.at (i := 0) rfl).2
  have fvq11 : I26 q11 = il [(4, 1), (3, 1), (2, 1), (1, 1), (0, 1)] := (aq.val (i := 0) rfl).1 rfl
  have fwq11 : I27 q11 = il [(5, 1), (4, 1), (3, 1), (2, 1), (1, 1), (0, 1)] := by have h9 : I27 q11 = _ := hx27.2.2.2.2.2.2 q11 mq11 kq11; rw [h9, fvq11, clamp_toInt (k := 5) (pc6.trans (by decide))]; rfl
  have mq9 : q9 ∈ L17 := (aq.at (i := 1) rfl).1
  have kq9 : C21 q9 = 36 := (aq.at (i := 1) rfl).2
  have fvq9 : I26 q9 = il [(4, 0), (3, 0), (2, 0), (1, 0), (0, 0)] := (aq.val (i := 1) rfl).1 rfl
  have fwq9 : I27 q9 = il [(5, 0), (4, 0), (3, 0), (2, 0), (1, 0), (0, 0)] := by have h9 : I27 q9 = _ := hx27.2.2.2.2.2.1 q9 mq9 kq9; rw [h9, fvq9, clamp_toInt (k := 5) (pc6.trans (by decide))]; rfl
  have mq7 : q7 ∈ L17 := (aq.at (i := 2) rfl).1
  have kq7 : C21 q7 = 35 := (aq.at (i := 2) rfl).2
  have fvq7 : I26 q7 = il [(4, 1), (3, 1), (2, 1), (1, 1), (0, 1)] := (aq.val (i := 2) rfl).1 rfl
  have fwq7 : I27 q7 = il [(5, 1), (4, 1), (3, 1), (2, 1), (1, 1), (0, 1)] := by have h9 : I27 q7 = _ := hx27.2.2.2.2.1 q7 mq7 kq7; rw [h9, fvq7, clamp_toInt (k := 5) (pc6.trans (by decide))]; rfl
  have mq5 : q5 ∈ L17 := (aq.at (i := 3) rfl).1
  have kq5 : C21 q5 = 34 := (aq.at (i := 3) rfl).2
  have fvq5 : I26 q5 = il [(4, 5), (3, 5), (2, 1), (1, 1), (0, 1)] := (aq.val (i := 3) rfl).1 rfl
  have fwq5 : I27 q5 = il [(5, 5), (4, 5), (3, 5), (2, 1), (1, 1), (0, 1)] := by have h9 : I27 q5 = _ := hx27.2.2.2.1 q5 mq5 kq5; rw [h9, fvq5, clamp_toInt (k := 5) (pc6.trans (by decide))]; rfl
  have mq3 : q3 ∈ L17 := (aq.at (i := 4) rfl).1
  have kq3 : C21 q3 = 33 := (aq.at (i := 4) rfl).2
  have fvq3 : I26 q3 = il [(4, 1), (3, 2), (2, 3), (1, 2), (0, 1)] := (aq.val (i := 4) rfl).1 rfl
  have fwq3 : I27 q3 = il [(5, 0), (4, 1), (3, 2), (2, 3), (1, 2), (0, 1)] := by have h9 : I27 q3 = _ := hx27.2.2.1 q3 mq3 kq3; rw [h9, fvq3, clamp_toInt (k := 5) (pc6.trans (by decide))]; rfl
  have mq1 : q1 ∈ L17 := (aq.at (i := 5) rfl).1
  have kq1 : C21 q1 = 32 := (aq.at (i := 5) rfl).2
  have fvq1 : I26 q1 = il [(4, 2), (3, 3), (2, 2), (1, 1), (0, 0)] := (aq.val (i := 5) rfl).1 rfl
  have fwq1 : I27 q1 = il [(5, 1), (4, 2), (3, 3), (2, 2), (1, 1), (0, 0)] := by have h9 : I27 q1 = _ := hx27.2.1 q1 mq1 kq1; rw [h9, fvq1, clamp_toInt (k := 5) (pc6.trans (by decide))]; rfl
  have aq := (AJ.cons (AJ.cons (AJ.cons (AJ.cons (AJ.cons (AJ.cons AJ.nil mq1 kq1 rfl (Fc.row fwq1)) mq3 kq3 rfl (Fc.row fwq3)) mq5 kq5 rfl (Fc.row fwq5)) mq7 kq7 rfl (Fc.row fwq7)) mq9 kq9 rfl (Fc.row fwq9)) mq11 kq11 rfl (Fc.row fwq11))
  have pc6 : (I27 a0 6).toInt = 6 := hx27.1.1.trans (by rw [pc6]; decide)
  have pc7 : I27 a0 7 = 6 := (heldK oRk ma0 ka0 hf27).trans (by rw [pc7]; decide)
  refine lv_iinc (v := 6) (lv' := [(1, .int 6), (0, .ref a0)]) hx hb dX6_init_121 hl (k := 0) rfl (by decide) (by decide) rfl (fun ls hl => ?_)
  refine lv_goto (tgt := 90) hx hb dX6_init_124 (by decide) ?_
  refine lv_iload_n hx hb dX6_init_90 rfl (lv_at hl 0 rfl) ?_
  refine lv_bipush (v := 12) hx hb dX6_init_91 (by decide) ?_
  refine lv_icmp_ge (tgt := 127) hx hb dX6_init_93 (by decide) (fun q => absurd q (by decide)) (fun q => ?_)
  refine lv_aload_n hx hb dX6_init_96 rfl (lv_at hl 1 rfl) ?_
  refine hStat hx hb hts hown hH hzFROM kfs_X6_51 dX6_init_97 ?_
  refine lv_iload_n hx hb dX6_init_100 rfl (lv_at hl 0 rfl) ?_
  refine hStatLd (v := 4) hx hb hH htFROM (Rg_in (Rg_c (x := 6) (a := 6) (b := 6) (by decide)) (by decide)) rfl dX6_init_101 ?_
  refine hStat hx hb hts hown hH hzTO kfs_X6_54 dX6_init_102 ?_
  refine lv_iload_n hx hb dX6_init_105 rfl (lv_at hl 0 rfl) ?_
  refine hStatLd (v := 0) hx hb hH htTO (Rg_in (Rg_c (x := 6) (a := 6) (b := 6) (by decide)) (by decide)) rfl dX6_init_106 ?_
  refine hStat hx hb hts hown hH hzCOST kfs_X6_57 dX6_init_107 ?_
  refine lv_iload_n hx hb dX6_init_110 rfl (lv_at hl 0 rfl) ?_
  refine hStatLd (v := 2) hx hb hH htCOST (Rg_in (Rg_c (x := 6) (a := 6) (b := 6) (by decide)) (by decide)) rfl dX6_init_111 ?_
  refine hStat hx hb hts hown hH hzBY kfs_X6_60 dX6_init_112 ?_
  refine lv_iload_n hx hb dX6_init_115 rfl (lv_at hl 0 rfl) ?_
  refine hStatLd (v := 1) hx hb hH htBY (Rg_in (Rg_c (x := 6) (a := 6) (b := 6) (by decide)) (by decide)) rfl dX6_init_116 ?_
  refine lv_iconst (v := 0) hx hb dX6_init_117 (by decide) ?_
  have oRk := kk.2.1
  refine ca_X6_63 hx hb hml hown hts hH (c_X6_keep kk.1 kk.2.1 ma0 ka0 (Rg_c (x := 4) (by decide)) (Rg_c (x := 0) (by decide)) (Rg_c (x := 2) (by decide)) (Rg_c (x := 1) (by decide)) (Rg_c (x := 0) (by decide)) ⟨by rw [pc6]; decide, by rw [pc6]; decide⟩ kk.2.2.1) hl.1 ma0 ka0 rfl (by decide) (Nat.le_of_ble_eq_true rfl) ⟨by decide, by decide⟩ dX6_init_118 (fun I28 J28 R28 H locs hp hH => ?_)
  obtain ⟨⟨oI28, oR28, sc28⟩, eJ28, eR28, -, hx28, hf28⟩ := hp
  obtain rfl : J19 = J28 := eJ28.symm
  obtain rfl : R18 = R28 := eR28.symm
  have kk := KK.sm (u := (I27, J19, R18)) (v := (I28, J19, R18)) kk oI28 oR28 sc28 rfl rfl rfl rfl
  have old := old.sm sc28 hS0 rfl
  have al := AJ.sm (u := (I27, J19, R18)) (v := (I28, J19, R18)) al sc28 rfl
  have z0 := Z0.sm (u := (I27, J19, R18)) (v := (I28, J19, R18)) z0 sc28 rfl (by decide)
  have mq11 : q11 ∈ L17 := (aq.at (i := 0) rfl).1
  have kq11 : C21 q11 = 37 := (aq.at (i := 0) rfl).2
  have fvq11 : I27 q11 = il [(5, 1), (4, 1), (3, 1), (2, 1), (1, 1), (0, 1)] := (aq.val (i := 0) rfl).1 rfl
  have fwq11 : I28 q11 = il [(6, 1), (5, 1), (4, 1), (3, 1), (2, 1), (1, 1), (0, 1)] := by have h9 : I28 q11 = _ := hx28.2.2.2.2.2.2 q11 mq11 kq11; rw [h9, fvq11, clamp_toInt (k := 6) (pc6.trans (by decide))]; rfl
  have mq9 : q9 ∈ L17 := (aq.at (i := 1) rfl).1
  have kq9 : C21 q9 = 36 := (aq.at (i := 1) rfl).2
  have fvq9 : I27 q9 = il [(5, 0), (4, 0), (3, 0), (2, 0), (1, 0), (0, 0)] := (aq.val (i := 1) rfl).1 rfl
  have fwq9 : I28 q9 = il [(6, 0), (5, 0), (4, 0), (3, 0), (2, 0), (1, 0), (0, 0)] := by have h9 : I28 q9 = _ := hx28.2.2.2.2.2.1 q9 mq9 kq9; rw [h9, fvq9, clamp_toInt (k := 6) (pc6.trans (by decide))]; rfl
  have mq7 : q7 ∈ L17 := (aq.at (i := 2) rfl).1
  have kq7 : C21 q7 = 35 := (aq.at (i := 2) rfl).2
  have fvq7 : I27 q7 = il [(5, 1), (4, 1), (3, 1), (2, 1), (1, 1), (0, 1)] := (aq.val (i := 2) rfl).1 rfl
  have fwq7 : I28 q7 = il [(6, 1), (5, 1), (4, 1), (3, 1), (2, 1), (1, 1), (0, 1)] := by have h9 : I28 q7 = _ := hx28.2.2.2.2.1 q7 mq7 kq7; rw [h9, fvq7, clamp_toInt (k := 6) (pc6.trans (by decide))]; rfl
  have mq5 : q5 ∈ L17 := (aq.at (i := 3) rfl).1
  have kq5 : C21 q5 = 34 := (aq.at (i := 3) rfl).2
  have fvq5 : I27 q5 = il [(5, 5), (4, 5), (3, 5), (2, 1), (1, 1), (0, 1)] := (aq.val (i := 3) rfl).1 rfl
  have fwq5 : I28 q5 = il [(6, 2), (5, 5), (4, 5), (3, 5), (2, 1), (1, 1), (0, 1)] := by have h9 : I28 q5 = _ := hx28.2.2.2.1 q5 mq5 kq5; rw [h9, fvq5, clamp_toInt (k := 6) (pc6.trans (by decide))]; rfl
  have mq3 : q3 ∈ L17 := (aq.at (i := 4) rfl).1
  have kq3 : C21 q3 = 33 := (aq.at (i := 4) rfl).2
  have fvq3 : I27 q3 = il [(5, 0), (4, 1), (3, 2), (2, 3), (1, 2), (0, 1)] := (aq.val (i := 4) rfl).1 rfl
  have fwq3 : I28 q3 = il [(6, 0), (5, 0), (4, 1), (3, 2), (2, 3), (1, 2), (0, 1)] := by have h9 : I28 q3 = _ := hx28.2.2.1 q3 mq3 kq3; rw [h9, fvq3, clamp_toInt (k := 6) (pc6.trans (by decide))]; rfl
  have mq1 : q1 ∈ L17 := (aq.at (i := 5) rfl).1
  have kq1 : C21 q1 = 32 := (aq.at (i := 5) rfl).2
  have fvq1 : I27 q1 = il [(5, 1), (4, 2), (3, 3), (2, 2), (1, 1), (0, 0)] := (aq.val (i := 5) rfl).1 rfl
  have fwq1 : I28 q1 = il [(6, 4), (5, 1), (4, 2), (3, 3), (2, 2), (1, 1), (0, 0)] := by have h9 : I28 q1 = _ := hx28.2.1 q1 mq1 kq1; rw [h9, fvq1, clamp_toInt (k := 6) (pc6.trans (by decide))]; rfl
  have aq := (AJ.cons (AJ.cons (AJ.cons (AJ.cons (AJ.cons (AJ.cons AJ.nil mq1 kq1 rfl (Fc.row fwq1)) mq3 kq3 rfl (Fc.row fwq3)) mq5 kq5 rfl (Fc.row fwq5)) mq7 kq7 rfl (Fc.row fwq7)) mq9 kq9 rfl (Fc.row fwq9)) mq11 kq11 rfl (Fc.row fwq11))
  have pc6 : (I28 a0 6).toInt = 7 := hx28.1.1.trans (by rw [pc6]; decide)
  have pc7 : I28 a0 7 = 7 := (heldK oRk ma0 ka0 hf28).trans (by rw [pc7]; decide)
  refine lv_iinc (v := 7) (lv' := [(1, .int 7), (0, .ref a0)]) hx hb dX6_init_121 hl (k := 0) rfl (by decide) (by decide) rfl (fun ls hl => ?_)
  refine lv_goto (tgt := 90) hx hb dX6_init_124 (by decide) ?_
  refine lv_iload_n hx hb dX6_init_90 rfl (lv_at hl 0 rfl) ?_
  refine lv_bipush (v := 12) hx hb dX6_init_91 (by decide) ?_
  refine lv_icmp_ge (tgt := 127) hx hb dX6_init_93 (by decide) (fun q => absurd q (by decide)) (fun q => ?_)
  refine lv_aload_n hx hb dX6_init_96 rfl (lv_at hl 1 rfl) ?_
  refine hStat hx hb hts hown hH hzFROM kfs_X6_51 dX6_init_97 ?_
  refine lv_iload_n hx hb dX6_init_100 rfl (lv_at hl 0 rfl) ?_
  refine hStatLd (v := 2) hx hb hH htFROM (Rg_in (Rg_c (x := 7) (a := 7) (b := 7) (by decide)) (by decide)) rfl dX6_init_101 ?_
  refine hStat hx hb hts hown hH hzTO kfs_X6_54 dX6_init_102 ?_
  refine lv_iload_n hx hb dX6_init_105 rfl (lv_at hl 0 rfl) ?_
  refine hStatLd (v := 4) hx hb hH htTO (Rg_in (Rg_c (x := 7) (a := 7) (b := 7) (by decide)) (by decide)) rfl dX6_init_106 ?_
  refine hStat hx hb hts hown hH hzCOST kfs_X6_57 dX6_init_107 ?_
  refine lv_iload_n hx hb dX6_init_110 rfl (lv_at hl 0 rfl) ?_
  refine hStatLd (v := 6) hx hb hH htCOST (Rg_in (Rg_c (x := 7) (a := 7) (b := 7) (by decide)) (by decide)) rfl dX6_init_111 ?_
  refine hStat hx hb hts hown hH hzBY kfs_X6_60 dX6_init_112 ?_
  refine lv_iload_n hx hb dX6_init_115 rfl (lv_at hl 0 rfl) ?_
  refine hStatLd (v := 1) hx hb hH htBY (Rg_in (Rg_c (x := 7) (a := 7) (b := 7) (by decide)) (by decide)) rfl dX6_init_116 ?_
  refine lv_iconst (v := 0) hx hb dX6_init_117 (by decide) ?_
  have oRk := kk.2.1
  refine ca_X6_63 hx hb hml hown hts hH (c_X6_keep kk.1 kk.2.1 ma0 ka0 (Rg_c (x := 2) (by decide)) (Rg_c (x := 4) (by decide)) (Rg_c (x := 6) (by decide)) (Rg_c (x := 1) (by decide)) (Rg_c (x := 0) (by decide)) ⟨by rw [pc6]; decide, by rw [pc6]; decide⟩ kk.2.2.1) hl.1 ma0 ka0 rfl (by decide) (Nat.le_of_ble_eq_true rfl) ⟨by decide, by decide⟩ dX6_init_118 (fun I29 J29 R29 H locs hp hH => ?_)
  obtain ⟨⟨oI29, oR29, sc29⟩, eJ29, eR29, -, hx29, hf29⟩ := hp
  obtain rfl : J19 = J29 := eJ29.symm
  obtain rfl : R18 = R29 := eR29.symm
  have kk := KK.sm (u := (I28, J19, R18)) (v := (I29, J19, R18)) kk oI29 oR29 sc29 rfl rfl rfl rfl
  have old := old.sm sc29 hS0 rfl
  have al := AJ.sm (u := (I28, J19, R18)) (v := (I29, J19, R18)) al sc29 rfl
  have z0 := Z0.sm (u := (I28, J19, R18)) (v := (I29, J19, R18)) z0 sc29 rfl (by decide)
  have mq11 : q11 ∈ L17 := (aq.at (i := 0) rfl).1
  have kq11 : C21 q11 = 37 := (aq.at (i := 0) rfl).2
  have fvq11 : I28 q11 = il [(6, 1), (5, 1), (4, 1), (3, 1), (2, 1), (1, 1), (0, 1)] := (aq.val (i := 0) rfl).1 rfl
  have fwq11 : I29 q11 = il [(7, 1), (6, 1), (5, 1), (4, 1), (3, 1), (2, 1), (1, 1), (0, 1)] := by have h9 : I29 q11 = _ := hx29.2.2.2.2.2.2 q11 mq11 kq11; rw [h9, fvq11, clamp_toInt (k := 7) (pc6.trans (by decide))]; rfl
  have mq9 : q9 ∈ L17 := (aq.at (i := 1) rfl).1
  have kq9 : C21 q9 = 36 := (aq.at (i := 1) rfl).2
  have fvq9 : I28 q9 = il [(6, 0), (5, 0), (4, 0), (3, 0), (2, 0), (1, 0), (0, 0)] := (aq.val (i := 1) rfl).1 rfl
  have fwq9 : I29 q9 = il [(7, 0), (6, 0), (5, 0), (4, 0), (3, 0), (2, 0), (1, 0), (0, 0)] := by have h9 : I29 q9 = _ := hx29.2.2.2.2.2.1 q9 mq9 kq9; rw [h9, fvq9, clamp_toInt (k := 7) (pc6.trans (by decide))]; rfl
  have mq7 : q7 ∈ L17 := (aq.at (i := 2) rfl).1
  have kq7 : C21 q7 = 35 := (aq.at (i := 2) rfl).2
  have fvq7 : I28 q7 = il [(6, 1), (5, 1), (4, 1), (3, 1), (2, 1), (1, 1), (0, 1)] := (aq.val (i := 2) rfl).1 rfl
  have fwq7 : I29 q7 = il [(7, 1), (6, 1), (5, 1), (4, 1), (3, 1), (2, 1), (1, 1), (0, 1)] := by have h9 : I29 q7 = _ := hx29.2.2.2.2.1 q7 mq7 kq7; rw [h9, fvq7, clamp_toInt (k := 7) (pc6.trans (by decide))]; rfl
  have mq5 : q5 ∈ L17 := (aq.at (i := 3) rfl).1
  have kq5 : C21 q5 = 34 := (aq.at (i := 3) rfl).2
  have fvq5 : I28 q5 = il [(6, 2), (5, 5), (4, 5), (3, 5), (2, 1), (1, 1), (0, 1)] := (aq.val (i := 3) rfl).1 rfl
  have fwq5 : I29 q5 = il [(7, 6), (6, 2), (5, 5), (4, 5), (3, 5), (2, 1), (1, 1), (0, 1)] := by have h9 : I29 q5 = _ := hx29.2.2.2.1 q5 mq5 kq5; rw [h9, fvq5, clamp_toInt (k := 7) (pc6.trans (by decide))]; rfl
  have mq3 : q3 ∈ L17 := (aq.at (i := 4) rfl).1
  have kq3 : C21 q3 = 33 := (aq.at (i := 4) rfl).2
  have fvq3 : I28 q3 = il [(6, 0), (5, 0), (4, 1), (3, 2), (2, 3), (1, 2), (0, 1)] := (aq.val (i := 4) rfl).1 rfl
  have fwq3 : I29 q3 = il [(7, 4), (6, 0), (5, 0), (4, 1), (3, 2), (2, 3), (1, 2), (0, 1)] := by have h9 : I29 q3 = _ := hx29.2.2.1 q3 mq3 kq3; rw [h9, fvq3, clamp_toInt (k := 7) (pc6.trans (by decide))]; rfl
  have mq1 : q1 ∈ L17 := (aq.at (i := 5) rfl).1
  have kq1 : C21 q1 = 32 := (aq.at (i := 5) rfl).2
  have fvq1 : I28 q1 = il [(6, 4), (5, 1), (4, 2), (3, 3), (2, 2), (1, 1), (0, 0)] := (aq.val (i := 5) rfl).1 rfl
  have fwq1 : I29 q1 = il [(7, 2), (6, 4), (5, 1), (4, 2), (3, 3), (2, 2), (1, 1), (0, 0)] := by have h9 : I29 q1 = _ := hx29.2.1 q1 mq1 kq1; rw [h9, fvq1, clamp_toInt (k := 7) (pc6.trans (by decide))]; rfl
  have aq := (AJ.cons (AJ.cons (AJ.cons (AJ.cons (AJ.cons (AJ.cons AJ.nil mq1 kq1 rfl (Fc.row fwq1)) mq3 kq3 rfl (Fc.row fwq3)) mq5 kq5 rfl (Fc.row fwq5)) mq7 kq7 rfl (Fc.row fwq7)) mq9 kq9 rfl (Fc.row fwq9)) mq11 kq11 rfl (Fc.row fwq11))
  have pc6 : (I29 a0 6).toInt = 8 := hx29.1.1.trans (by rw [pc6]; decide)
  have pc7 : I29 a0 7 = 8 := (heldK oRk ma0 ka0 hf29).trans (by rw [pc7]; decide)
  refine lv_iinc (v := 8) (lv' := [(1, .int 8), (0, .ref a0)]) hx hb dX6_init_121 hl (k := 0) rfl (by decide) (by decide) rfl (fun ls hl => ?_)
  refine lv_goto (tgt := 90) hx hb dX6_init_124 (by decide) ?_
  refine lv_iload_n hx hb dX6_init_90 rfl (lv_at hl 0 rfl) ?_
  refine lv_bipush (v := 12) hx hb dX6_init_91 (by decide) ?_
  refine lv_icmp_ge (tgt := 127) hx hb dX6_init_93 (by decide) (fun q => absurd q (by decide)) (fun q => ?_)
  refine lv_aload_n hx hb dX6_init_96 rfl (lv_at hl 1 rfl) ?_
  refine hStat hx hb hts hown hH hzFROM kfs_X6_51 dX6_init_97 ?_
  refine lv_iload_n hx hb dX6_init_100 rfl (lv_at hl 0 rfl) ?_
  refine hStatLd (v := 3) hx hb hH htFROM (Rg_in (Rg_c (x := 8) (a := 8) (b := 8) (by decide)) (by decide)) rfl dX6_init_101 ?_
  refine hStat hx hb hts hown hH hzTO kfs_X6_54 dX6_init_102 ?_
  refine lv_iload_n hx hb dX6_init_105 rfl (lv_at hl 0 rfl) ?_
  refine hStatLd (v := 5) hx hb hH htTO (Rg_in (Rg_c (x := 8) (a := 8) (b := 8) (by decide)) (by decide)) rfl dX6_init_106 ?_
  refine hStat hx hb hts hown hH hzCOST kfs_X6_57 dX6_init_107 ?_
  refine lv_iload_n hx hb dX6_init_110 rfl (lv_at hl 0 rfl) ?_
  refine hStatLd (v := 3) hx hb hH htCOST (Rg_in (Rg_c (x := 8) (a := 8) (b := 8) (by decide)) (by decide)) rfl dX6_init_111 ?_
  refine hStat hx hb hts hown hH hzBY kfs_X6_60 dX6_init_112 ?_
  refine lv_iload_n hx hb dX6_init_115 rfl (lv_at hl 0 rfl) ?_
  refine hStatLd (v := 10) hx hb hH htBY (Rg_in (Rg_c (x := 8) (a := 8) (b := 8) (by decide)) (by decide)) rfl dX6_init_116 ?_
  refine lv_iconst (v := 0) hx hb dX6_init_117 (by decide) ?_
  have oRk := kk.2.1
  refine ca_X6_63 hx hb hml hown hts hH (c_X6_keep kk.1 kk.2.1 ma0 ka0 (Rg_c (x := 3) (by decide)) (Rg_c (x := 5) (by decide)) (Rg_c (x := 3) (by decide)) (Rg_c (x := 10) (by decide)) (Rg_c (x := 0) (by decide)) ⟨by rw [pc6]; decide, by rw [pc6]; decide⟩ kk.2.2.1) hl.1 ma0 ka0 rfl (by decide) (Nat.le_of_ble_eq_true rfl) ⟨by decide, by decide⟩ dX6_init_118 (fun I30 J30 R30 H locs hp hH => ?_)
  obtain ⟨⟨oI30, oR30, sc30⟩, eJ30, eR30, -, hx30, hf30⟩ := hp
  obtain rfl : J19 = J30 := eJ30.symm
  obtain rfl : R18 = R30 := eR30.symm
  have kk := KK.sm (u := (I29, J19, R18)) (v := (I30, J19, R18)) kk oI30 oR30 sc30 rfl rfl rfl rfl
  have old := old.sm sc30 hS0 rfl
  have al := AJ.sm (u := (I29, J19, R18)) (v := (I30, J19, R18)) al sc30 rfl
  have z0 := Z0.sm (u := (I29, J19, R18)) (v := (I30, J19, R18)) z0 sc30 rfl (by decide)
  have mq11 : q11 ∈ L17 := (aq.at (i := 0) rfl).1
  have kq11 : C21 q11 = 37 := (aq.at (i := 0) rfl).2
  have fvq11 : I29 q11 = il [(7, 1), (6, 1), (5, 1), (4, 1), (3, 1), (2, 1), (1, 1), (0, 1)] := (aq.val (i := 0) rfl).1 rfl
  have fwq11 : I30 q11 = il [(8, 1), (7, 1), (6, 1), (5, 1), (4, 1), (3, 1), (2, 1), (1, 1), (0, 1)] := by have h9 : I30 q11 = _ := hx30.2.2.2.2.2.2 q11 mq11 kq11; rw [h9, fvq11, clamp_toInt (k := 8) (pc6.trans (by decide))]; rfl
  have mq9 : q9 ∈ L17 := (aq.at (i := 1) rfl).1
  have kq9 : C21 q9 = 36 := (aq.at (i := 1) rfl).2
  have fvq9 : I29 q9 = il [(7, 0), (6, 0), (5, 0), (4, 0), (3, 0), (2, 0), (1, 0), (0, 0)] := (aq.val (i := 1) rfl).1 rfl
  have fwq9 : I30 q9 = il [(8, 0), (7, 0), (6, 0), (5, 0), (4, 0), (3, 0), (2, 0), (1, 0), (0, 0)] := by have h9 : I30 q9 = _ := hx30.2.2.2.2.2.1 q9 mq9 kq9; rw [h9, fvq9, clamp_toInt (k := 8) (pc6.trans (by decide))]; rfl
  have mq7 : q7 ∈ L17 := (aq.at (i := 2) rfl).1
  have kq7 : C21 q7 = 35 := (aq.at (i := 2) rfl).2
  have fvq7 : I29 q7 = il [(7, 1), (6, 1), (5, 1), (4, 1), (3, 1), (2, 1), (1, 1), (0, 1)] := (aq.val (i := 2) rfl).1 rfl
  have fwq7 : I30 q7 = il [(8, 10), (7, 1), (6, 1), (5, 1), (4, 1), (3, 1), (2, 1), (1, 1), (0, 1)] := by have h9 : I30 q7 = _ := hx30.2.2.2.2.1 q7 mq7 kq7; rw [h9, fvq7, clamp_toInt (k := 8) (pc6.trans (by decide))]; rfl
  have mq5 : q5 ∈ L17 := (aq.at (i := 3) rfl).1
  have kq5 : C21 q5 = 34 := (aq.at (i := 3) rfl).2
  have fvq5 : I29 q5 = il [(7, 6), (6, 2), (5, 5), (4, 5), (3, 5), (2, 1), (1, 1), (0, 1)] := (aq.val (i := 3) rfl).1 rfl
  have fwq5 : I30 q5 = il [(8, 3), (7, 6), (6, 2), (5, 5), (4, 5), (3, 5), (2, 1), (1, 1), (0, 1)] := by have h9 : I30 q5 = _ := hx30.2.2.2.1 q5 mq5 kq5; rw [h9, fvq5, clamp_toInt (k := 8) (pc6.trans (by decide))]; rfl
  have mq3 : q3 ∈ L17 := (aq.at (i := 4) rfl).1
  have kq3 : C21 q3 = 33 := (aq.at (i := 4) rfl).2
  have fvq3 : I29 q3 = il [(7, 4), (6, 0), (5, 0), (4, 1), (3, 2), (2, 3), (1, 2), (0, 1)] := (aq.val (i := 4) rfl).1 rfl
  have fwq3 : I30 q3 = il [(8, 5), (7, 4), (6, 0), (5, 0), (4, 1), (3, 2), (2, 3), (1, 2), (0, 1)] := by have h9 : I30 q3 = _ := hx30.2.2.1 q3 mq3 kq3; rw [h9, fvq3, clamp_toInt (k := 8) (pc6.trans (by decide))]; rfl
  have mq1 : q1 ∈ L17 := (aq.at (i := 5) rfl).1
  have kq1 : C21 q1 = 32 := (aq.at (i := 5) rfl).2
  have fvq1 : I29 q1 = il [(7, 2), (6, 4), (5, 1), (4, 2), (3, 3), (2, 2), (1, 1), (0, 0)] := (aq.val (i := 5) rfl).1 rfl
  have fwq1 : I30 q1 = il [(8, 3), (7, 2), (6, 4), (5, 1), (4, 2), (3, 3), (2, 2), (1, 1), (0, 0)] := by have h9 : I30 q1 = _ := hx30.2.1 q1 mq1 kq1; rw [h9, fvq1, clamp_toInt (k := 8) (pc6.trans (by decide))]; rfl
  have aq := (AJ.cons (AJ.cons (AJ.cons (AJ.cons (AJ.cons (AJ.cons AJ.nil mq1 kq1 rfl (Fc.row fwq1)) mq3 kq3 rfl (Fc.row fwq3)) mq5 kq5 rfl (Fc.row fwq5)) mq7 kq7 rfl (Fc.row fwq7)) mq9 kq9 rfl (Fc.row fwq9)) mq11 kq11 rfl (Fc.row fwq11))
  have pc6 : (I30 a0 6).toInt = 9 := hx30.1.1.trans (by rw [pc6]; decide)
  have pc7 : I30 a0 7 = 9 := (heldK oRk ma0 ka0 hf30).trans (by rw [pc7]; decide)
  refine lv_iinc (v := 9) (lv' := [(1, .int 9), (0, .ref a0)]) hx hb dX6_init_121 hl (k := 0) rfl (by decide) (by decide) rfl (fun ls hl => ?_)
  refine lv_goto (tgt := 90) hx hb dX6_init_124 (by decide) ?_
  refine lv_iload_n hx hb dX6_init_90 rfl (lv_at hl 0 rfl) ?_
  refine lv_bipush (v := 12) hx hb dX6_init_91 (by decide) ?_
  refine lv_icmp_ge (tgt := 127) hx hb dX6_init_93 (by decide) (fun q => absurd q (by decide)) (fun q => ?_)
  refine lv_aload_n hx hb dX6_init_96 rfl (lv_at hl 1 rfl) ?_
  refine hStat hx hb hts hown hH hzFROM kfs_X6_51 dX6_init_97 ?_
  refine lv_iload_n hx hb dX6_init_100 rfl (lv_at hl 0 rfl) ?_
  refine hStatLd (v := 5) hx hb hH htFROM (Rg_in (Rg_c (x := 9) (a := 9) (b := 9) (by decide)) (by decide)) rfl dX6_init_101 ?_
  refine hStat hx hb hts hown hH hzTO kfs_X6_54 dX6_init_102 ?_
  refine lv_iload_n hx hb dX6_init_105 rfl (lv_at hl 0 rfl) ?_
  refine hStatLd (v := 3) hx hb hH htTO (Rg_in (Rg_c (x := 9) (a := 9) (b := 9) (by decide)) (by decide)) rfl dX6_init_106 ?_
  refine hStat hx hb hts hown hH hzCOST kfs_X6_57 dX6_init_107 ?_
  refine lv_iload_n hx hb dX6_init_110 rfl (lv_at hl 0 rfl) ?_
  refine hStatLd (v := 6) hx hb hH htCOST (Rg_in (Rg_c (x := 9) (a := 9) (b := 9) (by decide)) (by decide)) rfl dX6_init_111 ?_
  refine hStat hx hb hts hown hH hzBY kfs_X6_60 dX6_init_112 ?_
  refine lv_iload_n hx hb dX6_init_115 rfl (lv_at hl 0 rfl) ?_
  refine hStatLd (v := 1) hx hb hH htBY (Rg_in (Rg_c (x := 9) (a := 9) (b := 9) (by decide)) (by decide)) rfl dX6_init_116 ?_
  refine lv_iconst (v := 0) hx hb dX6_init_117 (by decide) ?_
  have oRk := kk.2.1
  refine ca_X6_63 hx hb hml hown hts hH (c_X6_keep kk.1 kk.2.1 ma0 ka0 (Rg_c (x := 5) (by decide)) (Rg_c (x := 3) (by decide)) (Rg_c (x := 6) (by decide)) (Rg_c (x := 1) (by decide)) (Rg_c (x := 0) (by decide)) ⟨by rw [pc6]; decide, by rw [pc6]; decide⟩ kk.2.2.1) hl.1 ma0 ka0 rfl (by decide) (Nat.le_of_ble_eq_true rfl) ⟨by decide, by decide⟩ dX6_init_118 (fun I31 J31 R31 H locs hp hH => ?_)
  obtain ⟨⟨oI31, oR31, sc31⟩, eJ31, eR31, -, hx31, hf31⟩ := hp
  obtain rfl : J19 = J31 := eJ31.symm
  obtain rfl : R18 = R31 := eR31.symm
  have kk := KK.sm (u := (I30, J19, R18)) (v := (I31, J19, R18)) kk oI31 oR31 sc31 rfl rfl rfl rfl
  have old := old.sm sc31 hS0 rfl
  have al := AJ.sm (u := (I30, J19, R18)) (v := (I31, J19, R18)) al sc31 rfl
  have z0 := Z0.sm (u := (I30, J19, R18)) (v := (I31, J19, R18)) z0 sc31 rfl (by decide)
  have mq11 : q11 ∈ L17 := (aq.at (i := 0) rfl).1
  have kq11 : C21 q11 = 37 := (aq.at (i := 0) rfl).2
  have fvq11 : I30 q11 = il [(8, 1), (7, 1), (6, 1), (5, 1), (4, 1), (3, 1), (2, 1), (1, 1), (0, 1)] := (aq.val (i := 0) rfl).1 rfl
  have fwq11 : I31 q11 = il [(9, 1), (8, 1), (7, 1), (6, 1), (5, 1), (4, 1), (3, 1), (2, 1), (1, 1), (0, 1)] := by have h9 : I31 q11 = _ := hx31.2.2.2.2.2.2 q11 mq11 kq11; rw [h9, fvq11, clamp_toInt (k := 9) (pc6.trans (by decide))]; rfl
  have mq9 : q9 ∈ L17 := (aq.at (i := 1) rfl).1
  have kq9 : C21 q9 = 36 := (aq.at (i := 1) rfl).2
  have fvq9 : I30 q9 = il [(8, 0), (7, 0), (6, 0), (5, 0), (4, 0), (3, 0), (2, 0), (1, 0), (0, 0)] := (aq.val (i := 1) rfl).1 rfl
  have fwq9 : I31 q9 = il [(9, 0), (8, 0), (7, 0), (6, 0), (5, 0), (4, 0), (3, 0), (2, 0), (1, 0), (0, 0)] := by have h9 : I31 q9 = _ := hx31.2.2.2.2.2.1 q9 mq9 kq9; rw [h9, fvq9, clamp_toInt (k := 9) (pc6.trans (by decide))]; rfl
  have mq7 : q7 ∈ L17 := (aq.at (i := 2) rfl).1
  have kq7 : C21 q7 = 35 := (aq.at (i := 2) rfl).2
  have fvq7 : I30 q7 = il [(8, 10), (7, 1), (6, 1), (5, 1), (4, 1), (3, 1), (2, 1), (1, 1), (0, 1)] := (aq.val (i := 2) rfl).1 rfl
  have fwq7 : I31 q7 = il [(9, 1), (8, 10), (7, 1), (6, 1), (5, 1), (4, 1), (3, 1), (2, 1), (1, 1), (0, 1)] := by have h9 : I31 q7 = _ := hx31.2.2.2.2.1 q7 mq7 kq7; rw [h9, fvq7, clamp_toInt (k := 9) (pc6.trans (by decide))]; rfl
  have mq5 : q5 ∈ L17 := (aq.at (i := 3) rfl).1
  have kq5 : C21 q5 = 34 := (aq.at (i := 3) rfl).2
  have fvq5 : I30 q5 = il [(8, 3), (7, 6), (6, 2), (5, 5), (4, 5), (3, 5), (2, 1), (1, 1), (0, 1)] := (aq.val (i := 3) rfl).1 rfl
  have fwq5 : I31 q5 = il [(9, 6), (8, 3), (7, 6), (6, 2), (5, 5), (4, 5), (3, 5), (2, 1), (1, 1), (0, 1)] := by have h9 : I31 q5 = _ := hx31.2.2.2.1 q5 mq5 kq5; rw [h9, fvq5, clamp_toInt (k := 9) (pc6.trans (by decide))]; rfl
  have mq3 : q3 ∈ L17 := (aq.at (i := 4) rfl).1
  have kq3 : C21 q3 = 33 := (aq.at (i := 4) rfl).2
  have fvq3 : I30 q3 = il [(8, 5), (7, 4), (6, 0), (5, 0), (4, 1), (3, 2), (2, 3), (1, 2), (0, 1)] := (aq.val (i := 4) rfl).1 rfl
  have fwq3 : I31 q3 = il [(9, 3), (8, 5), (7, 4), (6, 0), (5, 0), (4, 1), (3, 2), (2, 3), (1, 2), (0, 1)] := by have h9 : I31 q3 = _ := hx31.2.2.1 q3 mq3 kq3; rw [h9, fvq3, clamp_toInt (k := 9) (pc6.trans (by decide))]; rfl
  have mq1 : q1 ∈ L17 := (aq.at (i := 5) rfl).1
  have kq1 : C21 q1 = 32 := (aq.at (i := 5) rfl).2
  have fvq1 : I30 q1 = il [(8, 3), (7, 2), (6, 4), (5, 1), (4, 2), (3, 3), (2, 2), (1, 1), (0, 0)] := (aq.val (i := 5) rfl).1 rfl
  have fwq1 : I31 q1 = il [(9, 5), (8, 3), (7, 2), (6, 4), (5, 1), (4, 2), (3, 3), (2, 2), (1, 1), (0, 0)] := by have h9 : I31 q1 = _ := hx31.2.1 q1 mq1 kq1; rw [h9, fvq1, clamp_toInt (k := 9) (pc6.trans (by decide))]; rfl
  have aq := (AJ.cons (AJ.cons (AJ.cons (AJ.cons (AJ.cons (AJ.cons AJ.nil mq1 kq1 rfl (Fc.row fwq1)) mq3 kq3 rfl (Fc.row fwq3)) mq5 kq5 rfl (Fc.row fwq5)) mq7 kq7 rfl (Fc.row fwq7)) mq9 kq9 rfl (Fc.row fwq9)) mq11 kq11 rfl (Fc.row fwq11))
  have pc6 : (I31 a0 6).toInt = 10 := hx31.1.1.trans (by rw [pc6]; decide)
  have pc7 : I31 a0 7 = 10 := (heldK oRk ma0 ka0 hf31).trans (by rw [pc7]; decide)
  refine lv_iinc (v := 10) (lv' := [(1, .int 10), (0, .ref a0)]) hx hb dX6_init_121 hl (k := 0) rfl (by decide) (by decide) rfl (fun ls hl => ?_)
  refine lv_goto (tgt := 90) hx hb dX6_init_124 (by decide) ?_
  refine lv_iload_n hx hb dX6_init_90 rfl (lv_at hl 0 rfl) ?_
  refine lv_bipush (v := 12) hx hb dX6_init_91 (by decide) ?_
  refine lv_icmp_ge (tgt := 127) hx hb dX6_init_93 (by decide) (fun q => absurd q (by decide)) (fun q => ?_)
  refine lv_aload_n hx hb dX6_init_96 rfl (lv_at hl 1 rfl) ?_
  refine hStat hx hb hts hown hH hzFROM kfs_X6_51 dX6_init_97 ?_
  refine lv_iload_n hx hb dX6_init_100 rfl (lv_at hl 0 rfl) ?_
  refine hStatLd (v := 6) hx hb hH htFROM (Rg_in (Rg_c (x := 10) (a := 10) (b := 10) (by decide)) (by decide)) rfl dX6_init_101 ?_
  refine hStat hx hb hts hown hH hzTO kfs_X6_54 dX6_init_102 ?_
  refine lv_iload_n hx hb dX6_init_105 rfl (lv_at hl 0 rfl) ?_
  refine hStatLd (v := 1) hx hb hH htTO (Rg_in (Rg_c (x := 10) (a := 10) (b := 10) (by decide)) (by decide)) rfl dX6_init_106 ?_
  refine hStat hx hb hts hown hH hzCOST kfs_X6_57 dX6_init_107 ?_
  refine lv_iload_n hx hb dX6_init_110 rfl (lv_at hl 0 rfl) ?_
  refine hStatLd (v := 2) hx hb hH htCOST (Rg_in (Rg_c (x := 10) (a := 10) (b := 10) (by decide)) (by decide)) rfl dX6_init_111 ?_
  refine hStat hx hb hts hown hH hzBY kfs_X6_60 dX6_init_112 ?_
  refine lv_iload_n hx hb dX6_init_115 rfl (lv_at hl 0 rfl) ?_
  refine hStatLd (v := 1) hx hb hH htBY (Rg_in (Rg_c (x := 10) (a := 10) (b := 10) (by decide)) (by decide)) rfl dX6_init_116 ?_
  refine lv_iconst (v := 0) hx hb dX6_init_117 (by decide) ?_
  have oRk := kk.2.1
  refine ca_X6_63 hx hb hml hown hts hH (c_X6_keep kk.1 kk.2.1 ma0 ka0 (Rg_c (x := 6) (by decide)) (Rg_c (x := 1) (by decide)) (Rg_c (x := 2) (by decide)) (Rg_c (x := 1) (by decide)) (Rg_c (x := 0) (by decide)) ⟨by rw [pc6]; decide, by rw [pc6]; decide⟩ kk.2.2.1) hl.1 ma0 ka0 rfl (by decide) (Nat.le_of_ble_eq_true rfl) ⟨by decide, by decide⟩ dX6_init_118 (fun I32 J32 R32 H locs hp hH => ?_)
  obtain ⟨⟨oI32, oR32, sc32⟩, eJ32, eR32, -, hx32, hf32⟩ := hp
  obtain rfl : J19 = J32 := eJ32.symm
  obtain rfl : R18 = R32 := eR32.symm
  have kk := KK.sm (u := (I31, J19, R18)) (v := (I32, J19, R18)) kk oI32 oR32 sc32 rfl rfl rfl rfl
  have old := old.sm sc32 hS0 rfl
  have al := AJ.sm (u := (I31, J19, R18)) (v := (I32, J19, R18)) al sc32 rfl
  have z0 := Z0.sm (u := (I31, J19, R18)) (v := (I32, J19, R18)) z0 sc32 rfl (by decide)
  have mq11 : q11 ∈ L17 := (aq.at (i := 0) rfl).1
  have kq11 : C21 q11 = 37 := (aq.at (i := 0) rfl).2
  have fvq11 : I31 q11 = il [(9, 1), (8, 1), (7, 1), (6, 1), (5, 1), (4, 1), (3, 1), (2, 1), (1, 1), (0, 1)] := (aq.val (i := 0) rfl).1 rfl
  have fwq11 : I32 q11 = il [(10, 1), (9, 1), (8, 1), (7, 1), (6, 1), (5, 1), (4, 1), (3, 1), (2, 1), (1, 1), (0, 1)] := by have h9 : I32 q11 = _ := hx32.2.2.2.2.2.2 q11 mq11 kq11; rw [h9, fvq11, clamp_toInt (k := 10) (pc6.trans (by decide))]; rfl
  have mq9 : q9 ∈ L17 := (aq.at (i := 1) rfl).1
  have kq9 : C21 q9 = 36 := (aq.at (i := 1) rfl).2
  have fvq9 : I31 q9 = il [(9, 0), (8, 0), (7, 0), (6, 0), (5, 0), (4, 0), (3, 0), (2, 0), (1, 0), (0, 0)] := (aq.val (i := 1) rfl).1 rfl
  have fwq9 : I32 q9 = il [(10, 0), (9, 0), (8, 0), (7, 0), (6, 0), (5, 0), (4, 0), (3, 0), (2, 0), (1, 0), (0, 0)] := by have h9 : I32 q9 = _ := hx32.2.2.2.2.2.1 q9 mq9 kq9; rw [h9, fvq9, clamp_toInt (k := 10) (pc6.trans (by decide))]; rfl
  have mq7 : q7 ∈ L17 := (aq.at (i := 2) rfl).1
  have kq7 : C21 q7 = 35 := (aq.at (i := 2) rfl).2
  have fvq7 : I31 q7 = il [(9, 1), (8, 10), (7, 1), (6, 1), (5, 1), (4, 1), (3, 1), (2, 1), (1, 1), (0, 1)] := (aq.val (i := 2) rfl).1 rfl
  have fwq7 : I32 q7 = il [(10, 1), (9, 1), (8, 10), (7, 1), (6, 1), (5, 1), (4, 1), (3, 1), (2, 1), (1, 1), (0, 1)] := by have h9 : I32 q7 = _ := hx32.2.2.2.2.1 q7 mq7 kq7; rw [h9, fvq7, clamp_toInt (k := 10) (pc6.trans (by decide))]; rfl
  have mq5 : q5 ∈ L17 := (aq.at (i := 3) rfl).1
  have kq5 : C21 q5 = 34 := (aq.at (i := 3) rfl).2
  have fvq5 : I31 q5 = il [(9, 6), (8, 3), (7, 6), (6, 2), (5, 5), (4, 5), (3, 5), (2, 1), (1, 1), (0, 1)] := (aq.val (i := 3) rfl).1 rfl
  have fwq5 : I32 q5 = il [(10, 2), (9, 6), (8, 3), (7, 6), (6, 2), (5, 5), (4, 5), (3, 5), (2, 1), (1, 1), (0, 1)] := by have h9 : I32 q5 = _ := hx32.2.2.2.1 q5 mq5 kq5; rw [h9, fvq5, clamp_toInt (k := 10) (pc6.trans (by decide))]; rfl
  have mq3 : q3 ∈ L17 := (aq.at (i := 4) rfl).1
  have kq3 : C21 q3 = 33 := (aq.at (i := 4) rfl).2
  have fvq3 : I31 q3 = il [(9, 3), (8, 5), (7, 4), (6, 0), (5, 0), (4, 1), (3, 2), (2, 3), (1, 2), (0, 1)] := (aq.val (i := 4) rfl).1 rfl
  have fwq3 : I32 q3 = il [(10, 1), (9, 3), (8, 5), (7, 4), (6, 0), (5, 0), (4, 1), (3, 2), (2, 3), (1, 2), (0, 1)] := by have h9 : I32 q3 = _ := hx32.2.2.1 q3 mq3 kq3; rw [h9, fvq3, clamp_toInt (k := 10) (pc6.trans (by decide))]; rfl
  have mq1 : q1 ∈ L17 := (aq.at (i := 5) rfl).1
  have kq1 : C21 q1 = 32 := (aq.at (i := 5) rfl).2
  have fvq1 : I31 q1 = il [(9, 5), (8, 3), (7, 2), (6, 4), (5, 1), (4, 2), (3, 3), (2, 2), (1, 1), (0, 0)] := (aq.val (i := 5) rfl).1 rfl
  have fwq1 : I32 q1 = il [(10, 6), (9, 5), (8, 3), (7, 2), (6, 4), (5, 1), (4, 2), (3, 3), (2, 2), (1, 1), (0, 0)] := by have h9 : I32 q1 = _ := hx32.2.1 q1 mq1 kq1; rw [h9, fvq1, clamp_toInt (k := 10) (pc6.trans (by decide))]; rfl
  have aq := (AJ.cons (AJ.cons (AJ.cons (AJ.cons (AJ.cons (AJ.cons AJ.nil mq1 kq1 rfl (Fc.row fwq1)) mq3 kq3 rfl (Fc.row fwq3)) mq5 kq5 rfl (Fc.row fwq5)) mq7 kq7 rfl (Fc.row fwq7)) mq9 kq9 rfl (Fc.row fwq9)) mq11 kq11 rfl (Fc.row fwq11))
  have pc6 : (I32 a0 6).toInt = 11 := hx32.1.1.trans (by rw [pc6]; decide)
  have pc7 : I32 a0 7 = 11 := (heldK oRk ma0 ka0 hf32).trans (by rw [pc7]; decide)
  refine lv_iinc (v := 11) (lv' := [(1, .int 11), (0, .ref a0)]) hx hb dX6_init_121 hl (k := 0) rfl (by decide) (by decide) rfl (fun ls hl => ?_)
  refine lv_goto (tgt := 90) hx hb dX6_init_124 (by decide) ?_
  refine lv_iload_n hx hb dX6_init_90 rfl (lv_at hl 0 rfl) ?_
  refine lv_bipush (v := 12) hx hb dX6_init_91 (by decide) ?_
  refine lv_icmp_ge (tgt := 127) hx hb dX6_init_93 (by decide) (fun q => absurd q (by decide)) (fun q => ?_)
  refine lv_aload_n hx hb dX6_init_96 rfl (lv_at hl 1 rfl) ?_
  refine hStat hx hb hts hown hH hzFROM kfs_X6_51 dX6_init_97 ?_
  refine lv_iload_n hx hb dX6_init_100 rfl (lv_at hl 0 rfl) ?_
  refine hStatLd (v := 1) hx hb hH htFROM (Rg_in (Rg_c (x := 11) (a := 11) (b := 11) (by decide)) (by decide)) rfl dX6_init_101 ?_
  refine hStat hx hb hts hown hH hzTO kfs_X6_54 dX6_init_102 ?_
  refine lv_iload_n hx hb dX6_init_105 rfl (lv_at hl 0 rfl) ?_
  refine hStatLd (v := 6) hx hb hH htTO (Rg_in (Rg_c (x := 11) (a := 11) (b := 11) (by decide)) (by decide)) rfl dX6_init_106 ?_
  refine hStat hx hb hts hown hH hzCOST kfs_X6_57 dX6_init_107 ?_
  refine lv_iload_n hx hb dX6_init_110 rfl (lv_at hl 0 rfl) ?_
  refine hStatLd (v := 5) hx hb hH htCOST (Rg_in (Rg_c (x := 11) (a := 11) (b := 11) (by decide)) (by decide)) rfl dX6_init_111 ?_
  refine hStat hx hb hts hown hH hzBY kfs_X6_60 dX6_init_112 ?_
  refine lv_iload_n hx hb dX6_init_115 rfl (lv_at hl 0 rfl) ?_
  refine hStatLd (v := 1) hx hb hH htBY (Rg_in (Rg_c (x := 11) (a := 11) (b := 11) (by decide)) (by decide)) rfl dX6_init_116 ?_
  refine lv_iconst (v := 0) hx hb dX6_init_117 (by decide) ?_
  have oRk := kk.2.1
  refine ca_X6_63 hx hb hml hown hts hH (c_X6_keep kk.1 kk.2.1 ma0 ka0 (Rg_c (x := 1) (by decide)) (Rg_c (x := 6) (by decide)) (Rg_c (x := 5) (by decide)) (Rg_c (x := 1) (by decide)) (Rg_c (x := 0) (by decide)) ⟨by rw [pc6]; decide, by rw [pc6]; decide⟩ kk.2.2.1) hl.1 ma0 ka0 rfl (by decide) (Nat.le_of_ble_eq_true rfl) ⟨by decide, by decide⟩ dX6_init_118 (fun I33 J33 R33 H locs hp hH => ?_)
  obtain ⟨⟨oI33, oR33, sc33⟩, eJ33, eR33, -, hx33, hf33⟩ := hp
  obtain rfl : J19 = J33 := eJ33.symm
  obtain rfl : R18 = R33 := eR33.symm
  have kk := KK.sm (u := (I32, J19, R18)) (v := (I33, J19, R18)) kk oI33 oR33 sc33 rfl rfl rfl rfl
  have old := old.sm sc33 hS0 rfl
  have al := AJ.sm (u := (I32, J19, R18)) (v := (I33, J19, R18)) al sc33 rfl
  have z0 := Z0.sm (u := (I32, J19, R18)) (v := (I33, J19, R18)) z0 sc33 rfl (by decide)
  have mq11 : q11 ∈ L17 := (aq.at (i := 0) rfl).1
  have kq11 : C21 q11 = 37 := (aq.at (i := 0) rfl).2
  have fvq11 : I32 q11 = il [(10, 1), (9, 1), (8, 1), (7, 1), (6, 1), (5, 1), (4, 1), (3, 1), (2, 1), (1, 1), (0, 1)] := (aq.val (i := 0) rfl).1 rfl
  have fwq11 : I33 q11 = il [(11, 1), (10, 1), (9, 1), (8, 1), (7, 1), (6, 1), (5, 1), (4, 1), (3, 1), (2, 1), (1, 1), (0, 1)] := by have h9 : I33 q11 = _ := hx33.2.2.2.2.2.2 q11 mq11 kq11; rw [h9, fvq11, clamp_toInt (k := 11) (pc6.trans (by decide))]; rfl
  have mq9 : q9 ∈ L17 := (aq.at (i := 1) rfl).1
  have kq9 : C21 q9 = 36 := (aq.at (i := 1) rfl).2
  have fvq9 : I32 q9 = il [(10, 0), (9, 0), (8, 0), (7, 0), (6, 0), (5, 0), (4, 0), (3, 0), (2, 0), (1, 0), (0, 0)] := (aq.val (i := 1) rfl).1 rfl
  have fwq9 : I33 q9 = il [(11, 0), (10, 0), (9, 0), (8, 0), (7, 0), (6, 0), (5, 0), (4, 0), (3, 0), (2, 0), (1, 0), (0, 0)] := by have h9 : I33 q9 = _ := hx33.2.2.2.2.2.1 q9 mq9 kq9; rw [h9, fvq9, clamp_toInt (k := 11) (pc6.trans (by decide))]; rfl
  have mq7 : q7 ∈ L17 := (aq.at (i := 2) rfl).1
  have kq7 : C21 q7 = 35 := (aq.at (i := 2) rfl).2
  have fvq7 : I32 q7 = il [(10, 1), (9, 1), (8, 10), (7, 1), (6, 1), (5, 1), (4, 1), (3, 1), (2, 1), (1, 1), (0, 1)] := (aq.val (i := 2) rfl).1 rfl
  have fwq7 : I33 q7 = il [(11, 1), (10, 1), (9, 1), (8, 10), (7, 1), (6, 1), (5, 1), (4, 1), (3, 1), (2, 1), (1, 1), (0, 1)] := by have h9 : I33 q7 = _ := hx33.2.2.2.2.1 q7 mq7 kq7; rw [h9, fvq7, clamp_toInt (k := 11) (pc6.trans (by decide))]; rfl
  have mq5 : q5 ∈ L17 := (aq.at (i := 3) rfl).1
  have kq5 : C21 q5 = 34 := (aq.at (i := 3) rfl).2
  have fvq5 : I32 q5 = il [(10, 2), (9, 6), (8, 3), (7, 6), (6, 2), (5, 5), (4, 5), (3, 5), (2, 1), (1, 1), (0, 1)] := (aq.val (i := 3) rfl).1 rfl
  have fwq5 : I33 q5 = il [(11, 5), (10, 2), (9, 6), (8, 3), (7, 6), (6, 2), (5, 5), (4, 5), (3, 5), (2, 1), (1, 1), (0, 1)] := by have h9 : I33 q5 = _ := hx33.2.2.2.1 q5 mq5 kq5; rw [h9, fvq5, clamp_toInt (k := 11) (pc6.trans (by decide))]; rfl
  have mq3 : q3 ∈ L17 := (aq.at (i := 4) rfl).1
  have kq3 : C21 q3 = 33 := (aq.at (i := 4) rfl).2
  have fvq3 : I32 q3 = il [(10, 1), (9, 3), (8, 5), (7, 4), (6, 0), (5, 0), (4, 1), (3, 2), (2, 3), (1, 2), (0, 1)] := (aq.val (i := 4) rfl).1 rfl
  have fwq3 : I33 q3 = il [(11, 6), (10, 1), (9, 3), (8, 5), (7, 4), (6, 0), (5, 0), (4, 1), (3, 2), (2, 3), (1, 2), (0, 1)] := by have h9 : I33 q3 = _ := hx33.2.2.1 q3 mq3 kq3; rw [h9, fvq3, clamp_toInt (k := 11) (pc6.trans (by decide))]; rfl
  have mq1 : q1 ∈ L17 := (aq.at (i := 5) rfl).1
  have kq1 : C21 q1 = 32 := (aq.at (i := 5) rfl).2
  have fvq1 : I32 q1 = il [(10, 6), (9, 5), (8, 3), (7, 2), (6, 4), (5, 1), (4, 2), (3, 3), (2, 2), (1, 1), (0, 0)] := (aq.val (i := 5) rfl).1 rfl
  have fwq1 : I33 q1 = il [(11, 1), (10, 6), (9, 5), (8, 3), (7, 2), (6, 4), (5, 1), (4, 2), (3, 3), (2, 2), (1, 1), (0, 0)] := by have h9 : I33 q1 = _ := hx33.2.1 q1 mq1 kq1; rw [h9, fvq1, clamp_toInt (k := 11) (pc6.trans (by decide))]; rfl
  have aq := (AJ.cons (AJ.cons (AJ.cons (AJ.cons (AJ.cons (AJ.cons AJ.nil mq1 kq1 rfl (Fc.row fwq1)) mq3 kq3 rfl (Fc.row fwq3)) mq5 kq5 rfl (Fc.row fwq5)) mq7 kq7 rfl (Fc.row fwq7)) mq9 kq9 rfl (Fc.row fwq9)) mq11 kq11 rfl (Fc.row fwq11))
  have pc6 : (I33 a0 6).toInt = 12 := hx33.1.1.trans (by rw [pc6]; decide)
  have pc7 : I33 a0 7 = 12 := (heldK oRk ma0 ka0 hf33).trans (by rw [pc7]; decide)
  refine lv_iinc (v := 12) (lv' := [(1, .int 12), (0, .ref a0)]) hx hb dX6_init_121 hl (k := 0) rfl (by decide) (by decide) rfl (fun ls hl => ?_)
  refine lv_goto (tgt := 90) hx hb dX6_init_124 (by decide) ?_
  refine lv_iload_n hx hb dX6_init_90 rfl (lv_at hl 0 rfl) ?_
  refine lv_bipush (v := 12) hx hb dX6_init_91 (by decide) ?_
  refine lv_icmp_ge (tgt := 127) hx hb dX6_init_93 (by decide) (fun q => ?_) (fun q => absurd (by decide) q)
  refine lv_aload_n hx hb dX6_init_127 rfl (lv_at hl 1 rfl) ?_
  have oIm := kk.1
  have oRk := kk.2.1
  refine ca_X6_67 hx hb hml hown hts hH (c_X6_measure kk.1 kk.2.1 ma0 ka0) hl.1 ma0 ka0 rfl (by decide) (Nat.le_of_ble_eq_true rfl) ⟨by decide, by decide⟩ dX6_init_128 (fun I34 J34 R34 H locs hp hH => ?_)
  obtain ⟨⟨oI34, oR34, sc34⟩, eJ34, eR34, hf34⟩ := hp
  obtain rfl : J19 = J34 := eJ34.symm
  obtain rfl : R18 = R34 := eR34.symm
  have kk := KK.sm (u := (I33, J19, R18)) (v := (I34, J19, R18)) kk oI34 oR34 sc34 rfl rfl rfl rfl
  have old := old.sm sc34 hS0 rfl
  have al := AJ.sm (u := (I33, J19, R18)) (v := (I34, J19, R18)) al sc34 rfl
  have z0 := Z0.sm (u := (I33, J19, R18)) (v := (I34, J19, R18)) z0 sc34 rfl (by decide)
  have aq := AJ.sm (u := (I33, J19, R18)) (v := (I34, J19, R18)) aq sc34 rfl
  have pc6 : (I34 a0 6).toInt = 12 := by have h9 : I34 a0 6 = I33 a0 6 := (sc34 a0 6 (by rw [ka0]; decide)).1; rw [h9]; exact pc6
  have pc7 : I34 a0 7 = 12 := by have h9 : I34 a0 7 = I33 a0 7 := (sc34 a0 7 (by rw [ka0]; decide)).1; rw [h9]; exact pc7
  refine W.widen (k := 8) (n := 290) (by decide) (by decide) ?_
  exact ret _ _ _ _ _ _ _ _ _ dX6_init_131 hH ⟨(kk.wS rfl), old, ka0, z0, ow0, ⟨q11, q9, q7, q5, q3, q1, (AJ.cons (AJ.pick (AJ.pick (AJ.pick (AJ.pick (AJ.pick (AJ.pick AJ.nil aq (i := 5) rfl) aq (i := 4) rfl) aq (i := 3) rfl) aq (i := 2) rfl) aq (i := 1) rfl) aq (i := 0) rfl) ma0 ka0 rfl (Fc.one (Int32.toInt_inj.mp (pc6.trans (by decide)))))⟩, ⟨(TbR.mk oIm ma0 ka0 hf34), pc7⟩⟩
