set_option maxHeartbeats 4000000 in
set_option maxRecDepth 100000 in
theorem c_X11_init {l : Launch} {D : va_G} {cy : Nat → ClassId} {L0 : List Nat} {C0 : Nat → Nat} {b0 : Nat} {I0 : hI} {J0 : hJ} {R0 : hR} {a0 : Nat} (kk : KK L0 C0 I0 R0 [27, 0, 1, 2, 3, 4, 5, 6, 7, 8, 9, 10, 16, 17, 18, 19, 20, 21, 22, 23, 24, 25, 26, 32, 33, 34, 35, 36, 37, 38, 39, 40, 41, 42, 43, 44, 45, 46, 47, 48, 49, 50, 51, 52, 53, 54, 55, 56, 57, 58, 59, 60]) (ma0 : a0 ∈ L0) (ka0 : C0 a0 = 27) (ria0 : I0 a0 = il []) (rra0 : R0 a0 = rl []) (z0 : Z0 L0 C0 I0 J0) (ow0 : Ow L0 C0 R0) : CA l yX11_init cX11_init 1 1 37 14010 D cy L0 C0 b0 [.ref a0] (I0, J0, R0) (fun q => KK q.1 q.2.1 q.2.2.1 q.2.2.2.2 [0, 1, 2, 3, 4, 5, 6, 7, 8, 9, 10, 11, 16, 17, 18, 19, 20, 21, 22, 23, 24, 25, 26, 27, 32, 33, 34, 35, 36, 37, 38, 39, 40, 41, 42, 43, 44, 45, 46, 47, 48, 49, 50, 51, 52, 53, 54, 55, 56, 57, 58, 59, 60, 64, 65, 66, 67, 68, 69, 70, 71, 72, 73, 74, 75, 76, 77, 78, 79, 80, 81, 82, 83, 84, 85, 86, 87, 88, 89, 90, 91, 92, 93, 94, 95, 96, 97, 98, 99, 100] ∧ Old L0 C0 (I0, J0, R0) a0 q.1 q.2.1 q.2.2.1 q.2.2.2.1 q.2.2.2.2 ∧ q.2.1 a0 = 11 ∧ Z0 q.1 q.2.1 q.2.2.1 q.2.2.2.1 ∧ Ow q.1 q.2.1 q.2.2.2.2 ∧ (∃ w_q11 w_q9 w_q7 w_q5 w_q3 w_q1 : Nat, AJ q.1 q.2.1 q.2.2.1 [(a0, 11, (false, [(1, 12)])), (w_q11, 69, (true, [(11, 1), (10, 1), (9, 1), (8, 1), (7, 1), (6, 1), (5, 1), (4, 1), (3, 1), (2, 1), (1, 1), (0, 1)])), (w_q9, 68, (true, [(11, 0), (10, 0), (9, 0), (8, 0), (7, 0), (6, 0), (5, 0), (4, 0), (3, 0), (2, 0), (1, 0), (0, 0)])), (w_q7, 67, (true, [(11, 1), (10, 1), (9, 1), (8, 1), (7, 1), (6, 1), (5, 1), (4, 1), (3, 1), (2, 1), (1, 1), (0, 1)])), (w_q5, 66, (true, [(11, 5), (10, 2), (9, 6), (8, 3), (7, 6), (6, 2), (5, 5), (4, 5), (3, 5), (2, 1), (1, 1), (0, 1)])), (w_q3, 65, (true, [(11, 6), (10, 1), (9, 3), (8, 5), (7, 4), (6, 0), (5, 0), (4, 1), (3, 2), (2, 3), (1, 2), (0, 1)])), (w_q1, 64, (true, [(11, 1), (10, 6), (9, 5), (8, 3), (7, 2), (6, 4), (5, 1), (4, 2), (3, 3), (2, 2), (1, 1), (0, 0)]))])) := by
  refine CA.mk (plainFor_of_name (by decide)) (Nat.le_of_ble_eq_true rfl) ?_
  intro p e s m args below meth c ls Q hF hin ret hH hl
  obtain ⟨hx, hb, -, hml, hown, hts, -⟩ := hF
  have hl : lv_has ls 1 [(0, .ref a0)] := hl
  have hH : Hp D cy L0 C0 b0 s s.heap I0 J0 R0 s.heap [] := hH
  have old : Old L0 C0 (I0, J0, R0) a0 L0 C0 I0 J0 R0 := Old.rf
  have hS0 := kk.2.2.2.1
  have kk0 := kk.2.1
  have al : AJ L0 C0 I0 [] := AJ.nil
  have aq : AJ L0 C0 I0 [] := AJ.nil
  refine lv_aload_n hx hb dX11_init_0 rfl (lv_at hl 0 rfl) ?_
  refine W.objInit hx hb hown (hts _ km_X11_1) (hts _ ki_objectInit) (hts _ kc_objectInit) rfl (by rw [hml]; exact hl.1) rfl dX11_init_1 (Nat.le_of_ble_eq_true rfl) (Nat.le_of_ble_eq_true rfl) ?_
  refine W.eq (g2 := F0 m 4 ls []) rfl ?_
  refine lv_aload_n hx hb dX11_init_4 rfl (lv_at hl 0 rfl) ?_
  refine lv_bipush (v := 32) hx hb dX11_init_5 (by decide) ?_
  refine hNewP (k := 0) (r := 64) (N := 32) (atype := .int) (ty := .int) (a0 := (32, .inl (fun _ => 0))) hx hb hts hH rfl kac_int rfl rfl rfl (eN_I rfl rfl) (by decide) (by decide) (by decide) (by decide) (by decide) dX11_init_7 (fun q1 L1 C1 I1 J1 R1 H g1 eI1 eJ1 eR1 hH => ?_)
  have nq1 : q1 ∉ L0 := fun h => g1.2.2 (old q1 h).1
  have rra0 : R1 a0 = rl [] := by rw [eR1, va_up_ne _ _ (g1.ne ma0)]; exact rra0
  have ria0 : I1 a0 = il [] := by rw [eI1, va_up_ne _ _ (g1.ne ma0)]; exact ria0
  have ka0 := g1.role ma0 ka0
  have ma0 := g1.mem ma0
  have mq1 := g1.new
  have kq1 := g1.at
  have aq := aq.new g1 eI1
  have al := al.new g1 eI1
  have z0 := z0.new g1 eI1 eJ1
  have ow0 := ow0.new g1 eR1
  have aq := aq.cons mq1 kq1 rfl (Fc.row (l := []) (by rw [eI1, va_up_self]; rfl))
  have kk := kk.new g1 eI1 eR1 zz_64 zr_64 (Or.inr rfl) (by decide)
  have old := old.new g1 eI1 eJ1 eR1
  refine pf_11_2 hx hb hts hown hH hin rfl ma0 ka0 rfl kf_X11_7 dX11_init_9 (fun R2 H locs eR2 hH => ?_)
  have rra0 : R2 a0 = rl [(2, q1)] := by rw [eR2]; exact rl_put rra0
  have kk : KK L1 C1 I1 R2 [64, 27, 0, 1, 2, 3, 4, 5, 6, 7, 8, 9, 10, 16, 17, 18, 19, 20, 21, 22, 23, 24, 25, 26, 32, 33, 34, 35, 36, 37, 38, 39, 40, 41, 42, 43, 44, 45, 46, 47, 48, 49, 50, 51, 52, 53, 54, 55, 56, 57, 58, 59, 60] := by rw [eR2]; exact kk.stR ka0 zr_27
  have old : Old L0 C0 (I0, J0, R0) a0 L1 C1 I1 J1 R2 := by rw [eR2]; exact old.stR (Or.inl rfl)
  have ow0 := ow0.stR ka0 rfl eR2
  refine lv_aload_n hx hb dX11_init_12 rfl (lv_at hl 0 rfl) ?_
  refine lv_bipush (v := 32) hx hb dX11_init_13 (by decide) ?_
  refine hNewP (k := 0) (r := 65) (N := 32) (atype := .int) (ty := .int) (a0 := (32, .inl (fun _ => 0))) hx hb hts hH rfl kac_int rfl rfl rfl (eN_I rfl rfl) (by decide) (by decide) (by decide) (by decide) (by decide) dX11_init_15 (fun q3 L3 C3 I3 J3 R3 H g3 eI3 eJ3 eR3 hH => ?_)
  have nq3 : q3 ∉ L0 := fun h => g3.2.2 (old q3 h).1
  have rra0 : R3 a0 = rl [(2, q1)] := by rw [eR3, va_up_ne _ _ (g3.ne ma0)]; exact rra0
  have ria0 : I3 a0 = il [] := by rw [eI3, va_up_ne _ _ (g3.ne ma0)]; exact ria0
  have ka0 := g3.role ma0 ka0
  have ma0 := g3.mem ma0
  have mq3 := g3.new
  have kq3 := g3.at
  have aq := aq.new g3 eI3
  have al := al.new g3 eI3
  have z0 := z0.new g3 eI3 eJ3
  have ow0 := ow0.new g3 eR3
  have aq := aq.cons mq3 kq3 rfl (Fc.row (l := []) (by rw [eI3, va_up_self]; rfl))
  have kk := kk.new g3 eI3 eR3 zz_65 zr_65 (Or.inr rfl) (by decide)
  have old := old.new g3 eI3 eJ3 eR3
  refine pf_11_3 hx hb hts hown hH hin rfl ma0 ka0 rfl kf_X11_13 dX11_init_17 (fun R4 H locs eR4 hH => ?_)
  have rra0 : R4 a0 = rl [(3, q3), (2, q1)] := by rw [eR4]; exact rl_put rra0
  have kk : KK L3 C3 I3 R4 [65, 64, 27, 0, 1, 2, 3, 4, 5, 6, 7, 8, 9, 10, 16, 17, 18, 19, 20, 21, 22, 23, 24, 25, 26, 32, 33, 34, 35, 36, 37, 38, 39, 40, 41, 42, 43, 44, 45, 46, 47, 48, 49, 50, 51, 52, 53, 54, 55, 56, 57, 58, 59, 60] := by rw [eR4]; exact kk.stR ka0 zr_27
  have old : Old L0 C0 (I0, J0, R0) a0 L3 C3 I3 J3 R4 := by rw [eR4]; exact old.stR (Or.inl rfl)
  have ow0 := ow0.stR ka0 rfl eR4
  refine lv_aload_n hx hb dX11_init_20 rfl (lv_at hl 0 rfl) ?_
  refine lv_bipush (v := 32) hx hb dX11_init_21 (by decide) ?_
  refine hNewP (k := 0) (r := 66) (N := 32) (atype := .int) (ty := .int) (a0 := (32, .inl (fun _ => 0))) hx hb hts hH rfl kac_int rfl rfl rfl (eN_I rfl rfl) (by decide) (by decide) (by decide) (by decide) (by decide) dX11_init_23 (fun q5 L5 C5 I5 J5 R5 H g5 eI5 eJ5 eR5 hH => ?_)
  have nq5 : q5 ∉ L0 := fun h => g5.2.2 (old q5 h).1
  have rra0 : R5 a0 = rl [(3, q3), (2, q1)] := by rw [eR5, va_up_ne _ _ (g5.ne ma0)]; exact rra0
  have ria0 : I5 a0 = il [] := by rw [eI5, va_up_ne _ _ (g5.ne ma0)]; exact ria0
  have ka0 := g5.role ma0 ka0
  have ma0 := g5.mem ma0
  have mq5 := g5.new
  have kq5 := g5.at
  have aq := aq.new g5 eI5
  have al := al.new g5 eI5
  have z0 := z0.new g5 eI5 eJ5
  have ow0 := ow0.new g5 eR5
  have aq := aq.cons mq5 kq5 rfl (Fc.row (l := []) (by rw [eI5, va_up_self]; rfl))
  have kk := kk.new g5 eI5 eR5 zz_66 zr_66 (Or.inr rfl) (by decide)
  have old := old.new g5 eI5 eJ5 eR5
  refine pf_11_4 hx hb hts hown hH hin rfl ma0 ka0 rfl kf_X11_16 dX11_init_25 (fun R6 H locs eR6 hH => ?_)
  have rra0 : R6 a0 = rl [(4, q5), (3, q3), (2, q1)] := by rw [eR6]; exact rl_put rra0
  have kk : KK L5 C5 I5 R6 [66, 65, 64, 27, 0, 1, 2, 3, 4, 5, 6, 7, 8, 9, 10, 16, 17, 18, 19, 20, 21, 22, 23, 24, 25, 26, 32, 33, 34, 35, 36, 37, 38, 39, 40, 41, 42, 43, 44, 45, 46, 47, 48, 49, 50, 51, 52, 53, 54, 55, 56, 57, 58, 59, 60] := by rw [eR6]; exact kk.stR ka0 zr_27
  have old : Old L0 C0 (I0, J0, R0) a0 L5 C5 I5 J5 R6 := by rw [eR6]; exact old.stR (Or.inl rfl)
  have ow0 := ow0.stR ka0 rfl eR6
  refine lv_aload_n hx hb dX11_init_28 rfl (lv_at hl 0 rfl) ?_
  refine lv_bipush (v := 32) hx hb dX11_init_29 (by decide) ?_
  refine hNewP (k := 0) (r := 67) (N := 32) (atype := .int) (ty := .int) (a0 := (32, .inl (fun _ => 0))) hx hb hts hH rfl kac_int rfl rfl rfl (eN_I rfl rfl) (by decide) (by decide) (by decide) (by decide) (by decide) dX11_init_31 (fun q7 L7 C7 I7 J7 R7 H g7 eI7 eJ7 eR7 hH => ?_)
  have nq7 : q7 ∉ L0 := fun h => g7.2.2 (old q7 h).1
  have rra0 : R7 a0 = rl [(4, q5), (3, q3), (2, q1)] := by rw [eR7, va_up_ne _ _ (g7.ne ma0)]; exact rra0
  have ria0 : I7 a0 = il [] := by rw [eI7, va_up_ne _ _ (g7.ne ma0)]; exact ria0
  have ka0 := g7.role ma0 ka0
  have ma0 := g7.mem ma0
  have mq7 := g7.new
  have kq7 := g7.at
  have aq := aq.new g7 eI7
  have al := al.new g7 eI7
  have z0 := z0.new g7 eI7 eJ7
  have ow0 := ow0.new g7 eR7
  have aq := aq.cons mq7 kq7 rfl (Fc.row (l := []) (by rw [eI7, va_up_self]; rfl))
  have kk := kk.new g7 eI7 eR7 zz_67 zr_67 (Or.inr rfl) (by decide)
  have old := old.new g7 eI7 eJ7 eR7
  refine pf_11_5 hx hb hts hown hH hin rfl ma0 ka0 rfl kf_X11_19 dX11_init_33 (fun R8 H locs eR8 hH => ?_)
  have rra0 : R8 a0 = rl [(5, q7), (4, q5), (3, q3), (2, q1)] := by rw [eR8]; exact rl_put rra0
  have kk : KK L7 C7 I7 R8 [67, 66, 65, 64, 27, 0, 1, 2, 3, 4, 5, 6, 7, 8, 9, 10, 16, 17, 18, 19, 20, 21, 22, 23, 24, 25, 26, 32, 33, 34, 35, 36, 37, 38, 39, 40, 41, 42, 43, 44, 45, 46, 47, 48, 49, 50, 51, 52, 53, 54, 55, 56, 57, 58, 59, 60] := by rw [eR8]; exact kk.stR ka0 zr_27
  have old : Old L0 C0 (I0, J0, R0) a0 L7 C7 I7 J7 R8 := by rw [eR8]; exact old.stR (Or.inl rfl)
  have ow0 := ow0.stR ka0 rfl eR8
  refine lv_aload_n hx hb dX11_init_36 rfl (lv_at hl 0 rfl) ?_
  refine lv_bipush (v := 32) hx hb dX11_init_37 (by decide) ?_
  refine hNewP (k := 0) (r := 68) (N := 32) (atype := .int) (ty := .int) (a0 := (32, .inl (fun _ => 0))) hx hb hts hH rfl kac_int rfl rfl rfl (eN_I rfl rfl) (by decide) (by decide) (by decide) (by decide) (by decide) dX11_init_39 (fun q9 L9 C9 I9 J9 R9 H g9 eI9 eJ9 eR9 hH => ?_)
  have nq9 : q9 ∉ L0 := fun h => g9.2.2 (old q9 h).1
  have rra0 : R9 a0 = rl [(5, q7), (4, q5), (3, q3), (2, q1)] := by rw [eR9, va_up_ne _ _ (g9.ne ma0)]; exact rra0
  have ria0 : I9 a0 = il [] := by rw [eI9, va_up_ne _ _ (g9.ne ma0)]; exact ria0
  have ka0 := g9.role ma0 ka0
  have ma0 := g9.mem ma0
  have mq9 := g9.new
  have kq9 := g9.at
  have aq := aq.new g9 eI9
  have al := al.new g9 eI9
  have z0 := z0.new g9 eI9 eJ9
  have ow0 := ow0.new g9 eR9
  have aq := aq.cons mq9 kq9 rfl (Fc.row (l := []) (by rw [eI9, va_up_self]; rfl))
  have kk := kk.new g9 eI9 eR9 zz_68 zr_68 (Or.inr rfl) (by decide)
  have old := old.new g9 eI9 eJ9 eR9
  refine pf_11_6 hx hb hts hown hH hin rfl ma0 ka0 rfl kf_X11_22 dX11_init_41 (fun R10 H locs eR10 hH => ?_)
  have rra0 : R10 a0 = rl [(6, q9), (5, q7), (4, q5), (3, q3), (2, q1)] := by rw [eR10]; exact rl_put rra0
  have kk : KK L9 C9 I9 R10 [68, 67, 66, 65, 64, 27, 0, 1, 2, 3, 4, 5, 6, 7, 8, 9, 10, 16, 17, 18, 19, 20, 21, 22, 23, 24, 25, 26, 32, 33, 34, 35, 36, 37, 38, 39, 40, 41, 42, 43, 44, 45, 46, 47, 48, 49, 50, 51, 52, 53, 54, 55, 56, 57, 58, 59, 60] := by rw [eR10]; exact kk.stR ka0 zr_27
  have old : Old L0 C0 (I0, J0, R0) a0 L9 C9 I9 J9 R10 := by rw [eR10]; exact old.stR (Or.inl rfl)
  have ow0 := ow0.stR ka0 rfl eR10
  refine lv_aload_n hx hb dX11_init_44 rfl (lv_at hl 0 rfl) ?_
  refine lv_bipush (v := 32) hx hb dX11_init_45 (by decide) ?_
  refine hNewP (k := 2) (r := 69) (N := 32) (atype := .boolean) (ty := .boolean) (a0 := (32, .inl (fun _ => 0))) hx hb hts hH rfl kac_boolean rfl rfl rfl (eN_Z rfl rfl) (by decide) (by decide) (by decide) (by decide) (by decide) dX11_init_47 (fun q11 L11 C11 I11 J11 R11 H g11 eI11 eJ11 eR11 hH => ?_)
  have nq11 : q11 ∉ L0 := fun h => g11.2.2 (old q11 h).1
  have rra0 : R11 a0 = rl [(6, q9), (5, q7), (4, q5), (3, q3), (2, q1)] := by rw [eR11, va_up_ne _ _ (g11.ne ma0)]; exact rra0
  have ria0 : I11 a0 = il [] := by rw [eI11, va_up_ne _ _ (g11.ne ma0)]; exact ria0
  have ka0 := g11.role ma0 ka0
  have ma0 := g11.mem ma0
  have mq11 := g11.new
  have kq11 := g11.at
  have aq := aq.new g11 eI11
  have al := al.new g11 eI11
  have z0 := z0.new g11 eI11 eJ11
  have ow0 := ow0.new g11 eR11
  have aq := aq.cons mq11 kq11 rfl (Fc.row (l := []) (by rw [eI11, va_up_self]; rfl))
  have kk := kk.new g11 eI11 eR11 zz_69 zr_69 (Or.inr rfl) (by decide)
  have old := old.new g11 eI11 eJ11 eR11
  refine pf_11_7 hx hb hts hown hH hin rfl ma0 ka0 rfl kf_X11_25 dX11_init_49 (fun R12 H locs eR12 hH => ?_)
  have rra0 : R12 a0 = rl [(7, q11), (6, q9), (5, q7), (4, q5), (3, q3), (2, q1)] := by rw [eR12]; exact rl_put rra0
  have kk : KK L11 C11 I11 R12 [69, 68, 67, 66, 65, 64, 27, 0, 1, 2, 3, 4, 5, 6, 7, 8, 9, 10, 16, 17, 18, 19, 20, 21, 22, 23, 24, 25, 26, 32, 33, 34, 35, 36, 37, 38, 39, 40, 41, 42, 43, 44, 45, 46, 47, 48, 49, 50, 51, 52, 53, 54, 55, 56, 57, 58, 59, 60] := by rw [eR12]; exact kk.stR ka0 zr_27
  have old : Old L0 C0 (I0, J0, R0) a0 L11 C11 I11 J11 R12 := by rw [eR12]; exact old.stR (Or.inl rfl)
  have ow0 := ow0.stR ka0 rfl eR12
  refine lv_aload_n hx hb dX11_init_52 rfl (lv_at hl 0 rfl) ?_
  refine lv_bipush (v := 20) hx hb dX11_init_53 (by decide) ?_
  refine hNewP (k := 0) (r := 70) (N := 20) (atype := .int) (ty := .int) (a0 := (20, .inl (fun _ => 0))) hx hb hts hH rfl kac_int rfl rfl rfl (eN_I rfl rfl) (by decide) (by decide) (by decide) (by decide) (by decide) dX11_init_55 (fun q13 L13 C13 I13 J13 R13 H g13 eI13 eJ13 eR13 hH => ?_)
  have nq13 : q13 ∉ L0 := fun h => g13.2.2 (old q13 h).1
  have rra0 : R13 a0 = rl [(7, q11), (6, q9), (5, q7), (4, q5), (3, q3), (2, q1)] := by rw [eR13, va_up_ne _ _ (g13.ne ma0)]; exact rra0
  have ria0 : I13 a0 = il [] := by rw [eI13, va_up_ne _ _ (g13.ne ma0)]; exact ria0
  have ka0 := g13.role ma0 ka0
  have ma0 := g13.mem ma0
  have mq13 := g13.new
  have kq13 := g13.at
  have aq := aq.new g13 eI13
  have al := al.new g13 eI13
  have z0 := z0.new g13 eI13 eJ13
  have ow0 := ow0.new g13 eR13
  have al := al.con0 mq13 kq13 rfl
  have kk := kk.new g13 eI13 eR13 zz_70 zr_70 (Or.inr rfl) (by decide)
  have old := old.new g13 eI13 eJ13 eR13
  refine pf_11_8 hx hb hts hown hH hin rfl ma0 ka0 rfl kf_X11_29 dX11_init_57 (fun R14 H locs eR14 hH => ?_)
  have rra0 : R14 a0 = rl [(8, q13), (7, q11), (6, q9), (5, q7), (4, q5), (3, q3), (2, q1)] := by rw [eR14]; exact rl_put rra0
  have kk : KK L13 C13 I13 R14 [70, 69, 68, 67, 66, 65, 64, 27, 0, 1, 2, 3, 4, 5, 6, 7, 8, 9, 10, 16, 17, 18, 19, 20, 21, 22, 23, 24, 25, 26, 32, 33, 34, 35, 36, 37, 38, 39, 40, 41, 42, 43, 44, 45, 46, 47, 48, 49, 50, 51, 52, 53, 54, 55, 56, 57, 58, 59, 60] := by rw [eR14]; exact kk.stR ka0 zr_27
  have old : Old L0 C0 (I0, J0, R0) a0 L13 C13 I13 J13 R14 := by rw [eR14]; exact old.stR (Or.inl rfl)
  have ow0 := ow0.stR ka0 rfl eR14
  refine lv_aload_n hx hb dX11_init_60 rfl (lv_at hl 0 rfl) ?_
  refine lv_bipush (v := 120) hx hb dX11_init_61 (by decide) ?_
  refine hNewP (k := 0) (r := 71) (N := 120) (atype := .int) (ty := .int) (a0 := (120, .inl (fun _ => 0))) hx hb hts hH rfl kac_int rfl rfl rfl (eN_I rfl rfl) (by decide) (by decide) (by decide) (by decide) (by decide) dX11_init_63 (fun q15 L15 C15 I15 J15 R15 H g15 eI15 eJ15 eR15 hH => ?_)
  have nq15 : q15 ∉ L0 := fun h => g15.2.2 (old q15 h).1
  have rra0 : R15 a0 = rl [(8, q13), (7, q11), (6, q9), (5, q7), (4, q5), (3, q3), (2, q1)] := by rw [eR15, va_up_ne _ _ (g15.ne ma0)]; exact rra0
  have ria0 : I15 a0 = il [] := by rw [eI15, va_up_ne _ _ (g15.ne ma0)]; exact ria0
  have ka0 := g15.role ma0 ka0
  have ma0 := g15.mem ma0
  have mq15 := g15.new
  have kq15 := g15.at
  have aq := aq.new g15 eI15
  have al := al.new g15 eI15
  have z0 := z0.new g15 eI15 eJ15
  have ow0 := ow0.new g15 eR15
  have al := al.con0 mq15 kq15 rfl
  have kk := kk.new g15 eI15 eR15 zz_71 zr_71 (Or.inr rfl) (by decide)
  have old := old.new g15 eI15 eJ15 eR15
  refine pf_11_9 hx hb hts hown hH hin rfl ma0 ka0 rfl kf_X11_32 dX11_init_65 (fun R16 H locs eR16 hH => ?_)
  have rra0 : R16 a0 = rl [(9, q15), (8, q13), (7, q11), (6, q9), (5, q7), (4, q5), (3, q3), (2, q1)] := by rw [eR16]; exact rl_put rra0
  have kk : KK L15 C15 I15 R16 [71, 70, 69, 68, 67, 66, 65, 64, 27, 0, 1, 2, 3, 4, 5, 6, 7, 8, 9, 10, 16, 17, 18, 19, 20, 21, 22, 23, 24, 25, 26, 32, 33, 34, 35, 36, 37, 38, 39, 40, 41, 42, 43, 44, 45, 46, 47, 48, 49, 50, 51, 52, 53, 54, 55, 56, 57, 58, 59, 60] := by rw [eR16]; exact kk.stR ka0 zr_27
  have old : Old L0 C0 (I0, J0, R0) a0 L15 C15 I15 J15 R16 := by rw [eR16]; exact old.stR (Or.inl rfl)
  have ow0 := ow0.stR ka0 rfl eR16
  refine lv_aload_n hx hb dX11_init_68 rfl (lv_at hl 0 rfl) ?_
  refine lv_bipush (v := 120) hx hb dX11_init_69 (by decide) ?_
  refine hNewP (k := 0) (r := 72) (N := 120) (atype := .int) (ty := .int) (a0 := (120, .inl (fun _ => 0))) hx hb hts hH rfl kac_int rfl rfl rfl (eN_I rfl rfl) (by decide) (by decide) (by decide) (by decide) (by decide) dX11_init_71 (fun q17 L17 C17 I17 J17 R17 H g17 eI17 eJ17 eR17 hH => ?_)
  have nq17 : q17 ∉ L0 := fun h => g17.2.2 (old q17 h).1
  have rra0 : R17 a0 = rl [(9, q15), (8, q13), (7, q11), (6, q9), (5, q7), (4, q5), (3, q3), (2, q1)] := by rw [eR17, va_up_ne _ _ (g17.ne ma0)]; exact rra0
  have ria0 : I17 a0 = il [] := by rw [eI17, va_up_ne _ _ (g17.ne ma0)]; exact ria0
  have ka0 := g17.role ma0 ka0
  have ma0 := g17.mem ma0
  have mq17 := g17.new
  have kq17 := g17.at
  have aq := aq.new g17 eI17
  have al := al.new g17 eI17
  have z0 := z0.new g17 eI17 eJ17
  have ow0 := ow0.new g17 eR17
  have al := al.con0 mq17 kq17 rfl
  have kk := kk.new g17 eI17 eR17 zz_72 zr_72 (Or.inr rfl) (by decide)
  have old := old.new g17 eI17 eJ17 eR17
  refine pf_11_10 hx hb hts hown hH hin rfl ma0 ka0 rfl kf_X11_35 dX11_init_73 (fun R18 H locs eR18 hH => ?_)
  have rra0 : R18 a0 = rl [(10, q17), (9, q15), (8, q13), (7, q11), (6, q9), (5, q7), (4, q5), (3, q3), (2, q1)] := by rw [eR18]; exact rl_put rra0
  have kk : KK L17 C17 I17 R18 [72, 71, 70, 69, 68, 67, 66, 65, 64, 27, 0, 1, 2, 3, 4, 5, 6, 7, 8, 9, 10, 16, 17, 18, 19, 20, 21, 22, 23, 24, 25, 26, 32, 33, 34, 35, 36, 37, 38, 39, 40, 41, 42, 43, 44, 45, 46, 47, 48, 49, 50, 51, 52, 53, 54, 55, 56, 57, 58, 59, 60] := by rw [eR18]; exact kk.stR ka0 zr_27
  have old : Old L0 C0 (I0, J0, R0) a0 L17 C17 I17 J17 R18 := by rw [eR18]; exact old.stR (Or.inl rfl)
  have ow0 := ow0.stR ka0 rfl eR18
  refine lv_aload_n hx hb dX11_init_76 rfl (lv_at hl 0 rfl) ?_
  refine lv_sipush (v := 480) hx hb dX11_init_77 (by decide) ?_
  refine hNewP (k := 0) (r := 73) (N := 480) (atype := .int) (ty := .int) (a0 := (480, .inl (fun _ => 0))) hx hb hts hH rfl kac_int rfl rfl rfl (eN_I rfl rfl) (by decide) (by decide) (by decide) (by decide) (by decide) dX11_init_80 (fun q19 L19 C19 I19 J19 R19 H g19 eI19 eJ19 eR19 hH => ?_)
  have nq19 : q19 ∉ L0 := fun h => g19.2.2 (old q19 h).1
  have rra0 : R19 a0 = rl [(10, q17), (9, q15), (8, q13), (7, q11), (6, q9), (5, q7), (4, q5), (3, q3), (2, q1)] := by rw [eR19, va_up_ne _ _ (g19.ne ma0)]; exact rra0
  have ria0 : I19 a0 = il [] := by rw [eI19, va_up_ne _ _ (g19.ne ma0)]; exact ria0
  have ka0 := g19.role ma0 ka0
  have ma0 := g19.mem ma0
  have mq19 := g19.new
  have kq19 := g19.at
  have aq := aq.new g19 eI19
  have al := al.new g19 eI19
  have z0 := z0.new g19 eI19 eJ19
  have ow0 := ow0.new g19 eR19
  have al := al.con0 mq19 kq19 rfl
  have kk := kk.new g19 eI19 eR19 zz_73 zr_73 (Or.inr rfl) (by decide)
  have old := old.new g19 eI19 eJ19 eR19
  refine pf_11_11 hx hb hts hown hH hin rfl ma0 ka0 rfl kf_X11_38 dX11_init_82 (fun R20 H locs eR20 hH => ?_)
  have rra0 : R20 a0 = rl [(11, q19), (10, q17), (9, q15), (8, q13), (7, q11), (6, q9), (5, q7), (4, q5), (3, q3), (2, q1)] := by rw [eR20]; exact rl_put rra0
  have kk : KK L19 C19 I19 R20 [73, 72, 71, 70, 69, 68, 67, 66, 65, 64, 27, 0, 1, 2, 3, 4, 5, 6, 7, 8, 9, 10, 16, 17, 18, 19, 20, 21, 22, 23, 24, 25, 26, 32, 33, 34, 35, 36, 37, 38, 39, 40, 41, 42, 43, 44, 45, 46, 47, 48, 49, 50, 51, 52, 53, 54, 55, 56, 57, 58, 59, 60] := by rw [eR20]; exact kk.stR ka0 zr_27
  have old : Old L0 C0 (I0, J0, R0) a0 L19 C19 I19 J19 R20 := by rw [eR20]; exact old.stR (Or.inl rfl)
  have ow0 := ow0.stR ka0 rfl eR20
  refine lv_aload_n hx hb dX11_init_85 rfl (lv_at hl 0 rfl) ?_
  refine lv_bipush (v := 120) hx hb dX11_init_86 (by decide) ?_
  refine hNewP (k := 0) (r := 74) (N := 120) (atype := .int) (ty := .int) (a0 := (120, .inl (fun _ => 0))) hx hb hts hH rfl kac_int rfl rfl rfl (eN_I rfl rfl) (by decide) (by decide) (by decide) (by decide) (by decide) dX11_init_88 (fun q21 L21 C21 I21 J21 R21 H g21 eI21 eJ21 eR21 hH => ?_)
  have nq21 : q21 ∉ L0 := fun h => g21.2.2 (old q21 h).1
  have rra0 : R21 a0 = rl [(11, q19), (10, q17), (9, q15), (8, q13), (7, q11), (6, q9), (5, q7), (4, q5), (3, q3), (2, q1)] := by rw [eR21, va_up_ne _ _ (g21.ne ma0)]; exact rra0
  have ria0 : I21 a0 = il [] := by rw [eI21, va_up_ne _ _ (g21.ne ma0)]; exact ria0
  have ka0 := g21.role ma0 ka0
  have ma0 := g21.mem ma0
  have mq21 := g21.new
  have kq21 := g21.at
  have aq := aq.new g21 eI21
  have al := al.new g21 eI21
  have z0 := z0.new g21 eI21 eJ21
  have ow0 := ow0.new g21 eR21
  have al := al.con0 mq21 kq21 rfl
  have kk := kk.new g21 eI21 eR21 zz_74 zr_74 (Or.inr rfl) (by decide)
  have old := old.new g21 eI21 eJ21 eR21
  refine pf_11_12 hx hb hts hown hH hin rfl ma0 ka0 rfl kf_X11_41 dX11_init_90 (fun R22 H locs eR22 hH => ?_)
  have rra0 : R22 a0 = rl [(12, q21), (11, q19), (10, q17), (9, q15), (8, q13), (7, q11), (6, q9), (5, q7), (4, q5), (3, q3), (2, q1)] := by rw [eR22]; exact rl_put rra0
  have kk : KK L21 C21 I21 R22 [74, 73, 72, 71, 70, 69, 68, 67, 66, 65, 64, 27, 0, 1, 2, 3, 4, 5, 6, 7, 8, 9, 10, 16, 17, 18, 19, 20, 21, 22, 23, 24, 25, 26, 32, 33, 34, 35, 36, 37, 38, 39, 40, 41, 42, 43, 44, 45, 46, 47, 48, 49, 50, 51, 52, 53, 54, 55, 56, 57, 58, 59, 60] := by rw [eR22]; exact kk.stR ka0 zr_27
  have old : Old L0 C0 (I0, J0, R0) a0 L21 C21 I21 J21 R22 := by rw [eR22]; exact old.stR (Or.inl rfl)
  have ow0 := ow0.stR ka0 rfl eR22
  refine lv_aload_n hx hb dX11_init_93 rfl (lv_at hl 0 rfl) ?_
  refine lv_bipush (v := 120) hx hb dX11_init_94 (by decide) ?_
  refine hNewP (k := 0) (r := 75) (N := 120) (atype := .int) (ty := .int) (a0 := (120, .inl (fun _ => 0))) hx hb hts hH rfl kac_int rfl rfl rfl (eN_I rfl rfl) (by decide) (by decide) (by decide) (by decide) (by decide) dX11_init_96 (fun q23 L23 C23 I23 J23 R23 H g23 eI23 eJ23 eR23 hH => ?_)
  have nq23 : q23 ∉ L0 := fun h => g23.2.2 (old q23 h).1
  have rra0 : R23 a0 = rl [(12, q21), (11, q19), (10, q17), (9, q15), (8, q13), (7, q11), (6, q9), (5, q7), (4, q5), (3, q3), (2, q1)] := by rw [eR23, va_up_ne _ _ (g23.ne ma0)]; exact rra0
  have ria0 : I23 a0 = il [] := by rw [eI23, va_up_ne _ _ (g23.ne ma0)]; exact ria0
  have ka0 := g23.role ma0 ka0
  have ma0 := g23.mem ma0
  have mq23 := g23.new
  have kq23 := g23.at
  have aq := aq.new g23 eI23
  have al := al.new g23 eI23
  have z0 := z0.new g23 eI23 eJ23
  have ow0 := ow0.new g23 eR23
  have al := al.con0 mq23 kq23 rfl
  have kk := kk.new g23 eI23 eR23 zz_75 zr_75 (Or.inr rfl) (by decide)
  have old := old.new g23 eI23 eJ23 eR23
  refine pf_11_13 hx hb hts hown hH hin rfl ma0 ka0 rfl kf_X11_44 dX11_init_98 (fun R24 H locs eR24 hH => ?_)
  have rra0 : R24 a0 = rl [(13, q23), (12, q21), (11, q19), (10, q17), (9, q15), (8, q13), (7, q11), (6, q9), (5, q7), (4, q5), (3, q3), (2, q1)] := by rw [eR24]; exact rl_put rra0
  have kk : KK L23 C23 I23 R24 [75, 74, 73, 72, 71, 70, 69, 68, 67, 66, 65, 64, 27, 0, 1, 2, 3, 4, 5, 6, 7, 8, 9, 10, 16, 17, 18, 19, 20, 21, 22, 23, 24, 25, 26, 32, 33, 34, 35, 36, 37, 38, 39, 40, 41, 42, 43, 44, 45, 46, 47, 48, 49, 50, 51, 52, 53, 54, 55, 56, 57, 58, 59, 60] := by rw [eR24]; exact kk.stR ka0 zr_27
  have old : Old L0 C0 (I0, J0, R0) a0 L23 C23 I23 J23 R24 := by rw [eR24]; exact old.stR (Or.inl rfl)
  have ow0 := ow0.stR ka0 rfl eR24
  refine lv_aload_n hx hb dX11_init_101 rfl (lv_at hl 0 rfl) ?_
  refine lv_bipush (v := 120) hx hb dX11_init_102 (by decide) ?_
  refine hNewP (k := 0) (r := 76) (N := 120) (atype := .int) (ty := .int) (a0 := (120, .inl (fun _ => 0))) hx hb hts hH rfl kac_int rfl rfl rfl (eN_I rfl rfl) (by decide) (by decide) (by decide) (by decide) (by decide) dX11_init_104 (fun q25 L25 C25 I25 J25 R25 H g25 eI25 eJ25 eR25 hH => ?_)
  have nq25 : q25 ∉ L0 := fun h => g25.2.2 (old q25 h).1
  have rra0 : R25 a0 = rl [(13, q23), (12, q21), (11, q19), (10, q17), (9, q15), (8, q13), (7, q11), (6, q9), (5, q7), (4, q5), (3, q3), (2, q1)] := by rw [eR25, va_up_ne _ _ (g25.ne ma0)]; exact rra0
  have ria0 : I25 a0 = il [] := by rw [eI25, va_up_ne _ _ (g25.ne ma0)]; exact ria0
  have ka0 := g25.role ma0 ka0
  have ma0 := g25.mem ma0
  have mq25 := g25.new
  have kq25 := g25.at
  have aq := aq.new g25 eI25
  have al := al.new g25 eI25
  have z0 := z0.new g25 eI25 eJ25
  have ow0 := ow0.new g25 eR25
  have al := al.con0 mq25 kq25 rfl
  have kk := kk.new g25 eI25 eR25 zz_76 zr_76 (Or.inr rfl) (by decide)
  have old := old.new g25 eI25 eJ25 eR25
  refine pf_11_14 hx hb hts hown hH hin rfl ma0 ka0 rfl kf_X11_47 dX11_init_106 (fun R26 H locs eR26 hH => ?_)
  have rra0 : R26 a0 = rl [(14, q25), (13, q23), (12, q21), (11, q19), (10, q17), (9, q15), (8, q13), (7, q11), (6, q9), (5, q7), (4, q5), (3, q3), (2, q1)] := by rw [eR26]; exact rl_put rra0
  have kk : KK L25 C25 I25 R26 [76, 75, 74, 73, 72, 71, 70, 69, 68, 67, 66, 65, 64, 27, 0, 1, 2, 3, 4, 5, 6, 7, 8, 9, 10, 16, 17, 18, 19, 20, 21, 22, 23, 24, 25, 26, 32, 33, 34, 35, 36, 37, 38, 39, 40, 41, 42, 43, 44, 45, 46, 47, 48, 49, 50, 51, 52, 53, 54, 55, 56, 57, 58, 59, 60] := by rw [eR26]; exact kk.stR ka0 zr_27
  have old : Old L0 C0 (I0, J0, R0) a0 L25 C25 I25 J25 R26 := by rw [eR26]; exact old.stR (Or.inl rfl)
  have ow0 := ow0.stR ka0 rfl eR26
  refine lv_aload_n hx hb dX11_init_109 rfl (lv_at hl 0 rfl) ?_
  refine lv_bipush (v := 120) hx hb dX11_init_110 (by decide) ?_
  refine hNewP (k := 0) (r := 77) (N := 120) (atype := .int) (ty := .int) (a0 := (120, .inl (fun _ => 0))) hx hb hts hH rfl kac_int rfl rfl rfl (eN_I rfl rfl) (by decide) (by decide) (by decide) (by decide) (by decide) dX11_init_112 (fun q27 L27 C27 I27 J27 R27 H g27 eI27 eJ27 eR27 hH => ?_)
  have nq27 : q27 ∉ L0 := fun h => g27.2.2 (old q27 h).1
  have rra0 : R27 a0 = rl [(14, q25), (13, q23), (12, q21), (11, q19), (10, q17), (9, q15), (8, q13), (7, q11), (6, q9), (5, q7), (4, q5), (3, q3), (2, q1)] := by rw [eR27, va_up_ne _ _ (g27.ne ma0)]; exact rra0
  have ria0 : I27 a0 = il [] := by rw [eI27, va_up_ne _ _ (g27.ne ma0)]; exact ria0
  have ka0 := g27.role ma0 ka0
  have ma0 := g27.mem ma0
  have mq27 := g27.new
  have kq27 := g27.at
  have aq := aq.new g27 eI27
  have al := al.new g27 eI27
  have z0 := z0.new g27 eI27 eJ27
  have ow0 := ow0.new g27 eR27
  have al := al.con0 mq27 kq27 rfl
  have kk := kk.new g27 eI27 eR27 zz_77 zr_77 (Or.inr rfl) (by decide)
  have old := old.new g27 eI27 eJ27 eR27
  refine pf_11_15 hx hb hts hown hH hin rfl ma0 ka0 rfl kf_X11_50 dX11_init_114 (fun R28 H locs eR28 hH => ?_)
  have rra0 : R28 a0 = rl [(15, q27), (14, q25), (13, q23), (12, q21), (11, q19), (10, q17), (9, q15), (8, q13), (7, q11), (6, q9), (5, q7), (4, q5), (3, q3), (2, q1)] := by rw [eR28]; exact rl_put rra0
  have kk : KK L27 C27 I27 R28 [77, 76, 75, 74, 73, 72, 71, 70, 69, 68, 67, 66, 65, 64, 27, 0, 1, 2, 3, 4, 5, 6, 7, 8, 9, 10, 16, 17, 18, 19, 20, 21, 22, 23, 24, 25, 26, 32, 33, 34, 35, 36, 37, 38, 39, 40, 41, 42, 43, 44, 45, 46, 47, 48, 49, 50, 51, 52, 53, 54, 55, 56, 57, 58, 59, 60] := by rw [eR28]; exact kk.stR ka0 zr_27
  have old : Old L0 C0 (I0, J0, R0) a0 L27 C27 I27 J27 R28 := by rw [eR28]; exact old.stR (Or.inl rfl)
  have ow0 := ow0.stR ka0 rfl eR28
  refine lv_aload_n hx hb dX11_init_117 rfl (lv_at hl 0 rfl) ?_
  refine lv_sipush (v := 480) hx hb dX11_init_118 (by decide) ?_
  refine hNewP (k := 0) (r := 78) (N := 480) (atype := .int) (ty := .int) (a0 := (480, .inl (fun _ => 0))) hx hb hts hH rfl kac_int rfl rfl rfl (eN_I rfl rfl) (by decide) (by decide) (by decide) (by decide) (by decide) dX11_init_121 (fun q29 L29 C29 I29 J29 R29 H g29 eI29 eJ29 eR29 hH => ?_)
  have nq29 : q29 ∉ L0 := fun h => g29.2.2 (old q29 h).1
  have rra0 : R29 a0 = rl [(15, q27), (14, q25), (13, q23), (12, q21), (11, q19), (10, q17), (9, q15), (8, q13), (7, q11), (6, q9), (5, q7), (4, q5), (3, q3), (2, q1)] := by rw [eR29, va_up_ne _ _ (g29.ne ma0)]; exact rra0
  have ria0 : I29 a0 = il [] := by rw [eI29, va_up_ne _ _ (g29.ne ma0)]; exact ria0
  have ka0 := g29.role ma0 ka0
  have ma0 := g29.mem ma0
  have mq29 := g29.new
  have kq29 := g29.at
  have aq := aq.new g29 eI29
  have al := al.new g29 eI29
  have z0 := z0.new g29 eI29 eJ29
  have ow0 := ow0.new g29 eR29
  have al := al.con0 mq29 kq29 rfl
  have kk := kk.new g29 eI29 eR29 zz_78 zr_78 (Or.inr rfl) (by decide)
  have old := old.new g29 eI29 eJ29 eR29
  refine pf_11_16 hx hb hts hown hH hin rfl ma0 ka0 rfl kf_X11_53 dX11_init_123 (fun R30 H locs eR30 hH => ?_)
  have rra0 : R30 a0 = rl [(16, q29), (15, q27), (14, q25), (13, q23), (12, q21), (11, q19), (10, q17), (9, q15), (8, q13), (7, q11), (6, q9), (5, q7), (4, q5), (3, q3), (2, q1)] := by rw [eR30]; exact rl_put rra0
  have kk : KK L29 C29 I29 R30 [78, 77, 76, 75, 74, 73, 72, 71, 70, 69, 68, 67, 66, 65, 64, 27, 0, 1, 2, 3, 4, 5, 6, 7, 8, 9, 10, 16, 17, 18, 19, 20, 21, 22, 23, 24, 25, 26, 32, 33, 34, 35, 36, 37, 38, 39, 40, 41, 42, 43, 44, 45, 46, 47, 48, 49, 50, 51, 52, 53, 54, 55, 56, 57, 58, 59, 60] := by rw [eR30]; exact kk.stR ka0 zr_27
  have old : Old L0 C0 (I0, J0, R0) a0 L29 C29 I29 J29 R30 := by rw [eR30]; exact old.stR (Or.inl rfl)
  have ow0 := ow0.stR ka0 rfl eR30
  refine lv_aload_n hx hb dX11_init_126 rfl (lv_at hl 0 rfl) ?_
  refine lv_sipush (v := 10000) hx hb dX11_init_127 (by decide) ?_
  refine hNewP (k := 2) (r := 79) (N := 10000) (atype := .boolean) (ty := .boolean) (a0 := (10000, .inl (fun _ => 0))) hx hb hts hH rfl kac_boolean rfl rfl rfl (eN_Z rfl rfl) (by decide) (by decide) (by decide) (by decide) (by decide) dX11_init_130 (fun q31 L31 C31 I31 J31 R31 H g31 eI31 eJ31 eR31 hH => ?_)
  have nq31 : q31 ∉ L0 := fun h => g31.2.2 (old q31 h).1
  have rra0 : R31 a0 = rl [(16, q29), (15, q27), (14, q25), (13, q23), (12, q21), (11, q19), (10, q17), (9, q15), (8, q13), (7, q11), (6, q9), (5, q7), (4, q5), (3, q3), (2, q1)] := by rw [eR31, va_up_ne _ _ (g31.ne ma0)]; exact rra0
  have ria0 : I31 a0 = il [] := by rw [eI31, va_up_ne _ _ (g31.ne ma0)]; exact ria0
  have ka0 := g31.role ma0 ka0
  have ma0 := g31.mem ma0
  have mq31 := g31.new
  have kq31 := g31.at
  have aq := aq.new g31 eI31
  have al := al.new g31 eI31
  have z0 := z0.new g31 eI31 eJ31
  have ow0 := ow0.new g31 eR31
  have al := al.con0 mq31 kq31 rfl
  have kk := kk.new g31 eI31 eR31 zz_79 zr_79 (Or.inr rfl) (by decide)
  have old := old.new g31 eI31 eJ31 eR31
  refine pf_11_17 hx hb hts hown hH hin rfl ma0 ka0 rfl kf_X11_56 dX11_init_132 (fun R32 H locs eR32 hH => ?_)
  have rra0 : R32 a0 = rl [(17, q31), (16, q29), (15, q27), (14, q25), (13, q23), (12, q21), (11, q19), (10, q17), (9, q15), (8, q13), (7, q11), (6, q9), (5, q7), (4, q5), (3, q3), (2, q1)] := by rw [eR32]; exact rl_put rra0
  have kk : KK L31 C31 I31 R32 [79, 78, 77, 76, 75, 74, 73, 72, 71, 70, 69, 68, 67, 66, 65, 64, 27, 0, 1, 2, 3, 4, 5, 6, 7, 8, 9, 10, 16, 17, 18, 19, 20, 21, 22, 23, 24, 25, 26, 32, 33, 34, 35, 36, 37, 38, 39, 40, 41, 42, 43, 44, 45, 46, 47, 48, 49, 50, 51, 52, 53, 54, 55, 56, 57, 58, 59, 60] := by rw [eR32]; exact kk.stR ka0 zr_27
  have old : Old L0 C0 (I0, J0, R0) a0 L31 C31 I31 J31 R32 := by rw [eR32]; exact old.stR (Or.inl rfl)
  have ow0 := ow0.stR ka0 rfl eR32
  refine lv_aload_n hx hb dX11_init_135 rfl (lv_at hl 0 rfl) ?_
  refine lv_bipush (v := 7) hx hb dX11_init_136 (by decide) ?_
  refine hNewP (k := 2) (r := 80) (N := 7) (atype := .boolean) (ty := .boolean) (a0 := (7, .inl (fun _ => 0))) hx hb hts hH rfl kac_boolean rfl rfl rfl (eN_Z rfl rfl) (by decide) (by decide) (by decide) (by decide) (by decide) dX11_init_138 (fun q33 L33 C33 I33 J33 R33 H g33 eI33 eJ33 eR33 hH => ?_)
  have nq33 : q33 ∉ L0 := fun h => g33.2.2 (old q33 h).1
  have rra0 : R33 a0 = rl [(17, q31), (16, q29), (15, q27), (14, q25), (13, q23), (12, q21), (11, q19), (10, q17), (9, q15), (8, q13), (7, q11), (6, q9), (5, q7), (4, q5), (3, q3), (2, q1)] := by rw [eR33, va_up_ne _ _ (g33.ne ma0)]; exact rra0
  have ria0 : I33 a0 = il [] := by rw [eI33, va_up_ne _ _ (g33.ne ma0)]; exact ria0
  have ka0 := g33.role ma0 ka0
  have ma0 := g33.mem ma0
  have mq33 := g33.new
  have kq33 := g33.at
  have aq := aq.new g33 eI33
  have al := al.new g33 eI33
  have z0 := z0.new g33 eI33 eJ33
  have ow0 := ow0.new g33 eR33
  have al := al.con0 mq33 kq33 rfl
  have kk := kk.new g33 eI33 eR33 zz_80 zr_80 (Or.inr rfl) (by decide)
  have old := old.new g33 eI33 eJ33 eR33
  refine pf_11_19 hx hb hts hown hH hin rfl ma0 ka0 rfl kf_X11_59 dX11_init_140 (fun R34 H locs eR34 hH => ?_)
  have rra0 : R34 a0 = rl [(19, q33), (17, q31), (16, q29), (15, q27), (14, q25), (13, q23), (12, q21), (11, q19), (10, q17), (9, q15), (8, q13), (7, q11), (6, q9), (5, q7), (4, q5), (3, q3), (2, q1)] := by rw [eR34]; exact rl_put rra0
  have kk : KK L33 C33 I33 R34 [80, 79, 78, 77, 76, 75, 74, 73, 72, 71, 70, 69, 68, 67, 66, 65, 64, 27, 0, 1, 2, 3, 4, 5, 6, 7, 8, 9, 10, 16, 17, 18, 19, 20, 21, 22, 23, 24, 25, 26, 32, 33, 34, 35, 36, 37, 38, 39, 40, 41, 42, 43, 44, 45, 46, 47, 48, 49, 50, 51, 52, 53, 54, 55, 56, 57, 58, 59, 60] := by rw [eR34]; exact kk.stR ka0 zr_27
  have old : Old L0 C0 (I0, J0, R0) a0 L33 C33 I33 J33 R34 := by rw [eR34]; exact old.stR (Or.inl rfl)
  have ow0 := ow0.stR ka0 rfl eR34
  refine lv_aload_n hx hb dX11_init_143 rfl (lv_at hl 0 rfl) ?_
  refine lv_bipush (v := 7) hx hb dX11_init_144 (by decide) ?_
  refine hNewP (k := 1) (r := 81) (N := 7) (atype := .long) (ty := .long) (a0 := (7, .inr (.inl (fun _ => 0)))) hx hb hts hH rfl kac_long rfl rfl rfl (eN_J rfl rfl) (by decide) (by decide) (by decide) (by decide) (by decide) dX11_init_146 (fun q35 L35 C35 I35 J35 R35 H g35 eI35 eJ35 eR35 hH => ?_)
  have nq35 : q35 ∉ L0 := fun h => g35.2.2 (old q35 h).1
  have rra0 : R35 a0 = rl [(19, q33), (17, q31), (16, q29), (15, q27), (14, q25), (13, q23), (12, q21), (11, q19), (10, q17), (9, q15), (8, q13), (7, q11), (6, q9), (5, q7), (4, q5), (3, q3), (2, q1)] := by rw [eR35, va_up_ne _ _ (g35.ne ma0)]; exact rra0
  have ria0 : I35 a0 = il [] := by rw [eI35, va_up_ne _ _ (g35.ne ma0)]; exact ria0
  have ka0 := g35.role ma0 ka0
  have ma0 := g35.mem ma0
  have mq35 := g35.new
  have kq35 := g35.at
  have aq := aq.new g35 eI35
  have al := al.new g35 eI35
  have z0 := z0.new g35 eI35 eJ35
  have ow0 := ow0.new g35 eR35
  have al := al.con0 mq35 kq35 rfl
  have kk := kk.new g35 eI35 eR35 zz_81 zr_81 (Or.inr rfl) (by decide)
  have old := old.new g35 eI35 eJ35 eR35
  refine pf_11_20 hx hb hts hown hH hin rfl ma0 ka0 rfl kf_X11_62 dX11_init_148 (fun R36 H locs eR36 hH => ?_)
  have rra0 : R36 a0 = rl [(20, q35), (19, q33), (17, q31), (16, q29), (15, q27), (14, q25), (13, q23), (12, q21), (11, q19), (10, q17), (9, q15), (8, q13), (7, q11), (6, q9), (5, q7), (4, q5), (3, q3), (2, q1)] := by rw [eR36]; exact rl_put rra0
  have kk : KK L35 C35 I35 R36 [81, 80, 79, 78, 77, 76, 75, 74, 73, 72, 71, 70, 69, 68, 67, 66, 65, 64, 27, 0, 1, 2, 3, 4, 5, 6, 7, 8, 9, 10, 16, 17, 18, 19, 20, 21, 22, 23, 24, 25, 26, 32, 33, 34, 35, 36, 37, 38, 39, 40, 41, 42, 43, 44, 45, 46, 47, 48, 49, 50, 51, 52, 53, 54, 55, 56, 57, 58, 59, 60] := by rw [eR36]; exact kk.stR ka0 zr_27
  have old : Old L0 C0 (I0, J0, R0) a0 L35 C35 I35 J35 R36 := by rw [eR36]; exact old.stR (Or.inl rfl)
  have ow0 := ow0.stR ka0 rfl eR36
  refine lv_aload_n hx hb dX11_init_151 rfl (lv_at hl 0 rfl) ?_
  refine lv_bipush (v := 20) hx hb dX11_init_152 (by decide) ?_
  refine hNewP (k := 0) (r := 82) (N := 20) (atype := .int) (ty := .int) (a0 := (20, .inl (fun _ => 0))) hx hb hts hH rfl kac_int rfl rfl rfl (eN_I rfl rfl) (by decide) (by decide) (by decide) (by decide) (by decide) dX11_init_154 (fun q37 L37 C37 I37 J37 R37 H g37 eI37 eJ37 eR37 hH => ?_)
  have nq37 : q37 ∉ L0 := fun h => g37.2.2 (old q37 h).1
  have rra0 : R37 a0 = rl [(20, q35), (19, q33), (17, q31), (16, q29), (15, q27), (14, q25), (13, q23), (12, q21), (11, q19), (10, q17), (9, q15), (8, q13), (7, q11), (6, q9), (5, q7), (4, q5), (3, q3), (2, q1)] := by rw [eR37, va_up_ne _ _ (g37.ne ma0)]; exact rra0
  have ria0 : I37 a0 = il [] := by rw [eI37, va_up_ne _ _ (g37.ne ma0)]; exact ria0
  have ka0 := g37.role ma0 ka0
  have ma0 := g37.mem ma0
  have mq37 := g37.new
  have kq37 := g37.at
  have aq := aq.new g37 eI37
  have al := al.new g37 eI37
  have z0 := z0.new g37 eI37 eJ37
  have ow0 := ow0.new g37 eR37
  have al := al.con0 mq37 kq37 rfl
  have kk := kk.new g37 eI37 eR37 zz_82 zr_82 (Or.inr rfl) (by decide)
  have old := old.new g37 eI37 eJ37 eR37
  refine pf_11_22 hx hb hts hown hH hin rfl ma0 ka0 rfl kf_X11_66 dX11_init_156 (fun R38 H locs eR38 hH => ?_)
  have rra0 : R38 a0 = rl [(22, q37), (20, q35), (19, q33), (17, q31), (16, q29), (15, q27), (14, q25), (13, q23), (12, q21), (11, q19), (10, q17), (9, q15), (8, q13), (7, q11), (6, q9), (5, q7), (4, q5), (3, q3), (2, q1)] := by rw [eR38]; exact rl_put rra0
  have kk : KK L37 C37 I37 R38 [82, 81, 80, 79, 78, 77, 76, 75, 74, 73, 72, 71, 70, 69, 68, 67, 66, 65, 64, 27, 0, 1, 2, 3, 4, 5, 6, 7, 8, 9, 10, 16, 17, 18, 19, 20, 21, 22, 23, 24, 25, 26, 32, 33, 34, 35, 36, 37, 38, 39, 40, 41, 42, 43, 44, 45, 46, 47, 48, 49, 50, 51, 52, 53, 54, 55, 56, 57, 58, 59, 60] := by rw [eR38]; exact kk.stR ka0 zr_27
  have old : Old L0 C0 (I0, J0, R0) a0 L37 C37 I37 J37 R38 := by rw [eR38]; exact old.stR (Or.inl rfl)
  have ow0 := ow0.stR ka0 rfl eR38
  refine lv_aload_n hx hb dX11_init_159 rfl (lv_at hl 0 rfl) ?_
  refine lv_bipush (v := 60) hx hb dX11_init_160 (by decide) ?_
  refine hNewP (k := 1) (r := 83) (N := 60) (atype := .long) (ty := .long) (a0 := (60, .inr (.inl (fun _ => 0)))) hx hb hts hH rfl kac_long rfl rfl rfl (eN_J rfl rfl) (by decide) (by decide) (by decide) (by decide) (by decide) dX11_init_162 (fun q39 L39 C39 I39 J39 R39 H g39 eI39 eJ39 eR39 hH => ?_)
  have nq39 : q39 ∉ L0 := fun h => g39.2.2 (old q39 h).1
  have rra0 : R39 a0 = rl [(22, q37), (20, q35), (19, q33), (17, q31), (16, q29), (15, q27), (14, q25), (13, q23), (12, q21), (11, q19), (10, q17), (9, q15), (8, q13), (7, q11), (6, q9), (5, q7), (4, q5), (3, q3), (2, q1)] := by rw [eR39, va_up_ne _ _ (g39.ne ma0)]; exact rra0
  have ria0 : I39 a0 = il [] := by rw [eI39, va_up_ne _ _ (g39.ne ma0)]; exact ria0
  have ka0 := g39.role ma0 ka0
  have ma0 := g39.mem ma0
  have mq39 := g39.new
  have kq39 := g39.at
  have aq := aq.new g39 eI39
  have al := al.new g39 eI39
  have z0 := z0.new g39 eI39 eJ39
  have ow0 := ow0.new g39 eR39
  have al := al.con0 mq39 kq39 rfl
  have kk := kk.new g39 eI39 eR39 zz_83 zr_83 (Or.inr rfl) (by decide)
  have old := old.new g39 eI39 eJ39 eR39
  refine pf_11_23 hx hb hts hown hH hin rfl ma0 ka0 rfl kf_X11_69 dX11_init_164 (fun R40 H locs eR40 hH => ?_)
  have rra0 : R40 a0 = rl [(23, q39), (22, q37), (20, q35), (19, q33), (17, q31), (16, q29), (15, q27), (14, q25), (13, q23), (12, q21), (11, q19), (10, q17), (9, q15), (8, q13), (7, q11), (6, q9), (5, q7), (4, q5), (3, q3), (2, q1)] := by rw [eR40]; exact rl_put rra0
  have kk : KK L39 C39 I39 R40 [83, 82, 81, 80, 79, 78, 77, 76, 75, 74, 73, 72, 71, 70, 69, 68, 67, 66, 65, 64, 27, 0, 1, 2, 3, 4, 5, 6, 7, 8, 9, 10, 16, 17, 18, 19, 20, 21, 22, 23, 24, 25, 26, 32, 33, 34, 35, 36, 37, 38, 39, 40, 41, 42, 43, 44, 45, 46, 47, 48, 49, 50, 51, 52, 53, 54, 55, 56, 57, 58, 59, 60] := by rw [eR40]; exact kk.stR ka0 zr_27
  have old : Old L0 C0 (I0, J0, R0) a0 L39 C39 I39 J39 R40 := by rw [eR40]; exact old.stR (Or.inl rfl)
  have ow0 := ow0.stR ka0 rfl eR40
  refine lv_aload_n hx hb dX11_init_167 rfl (lv_at hl 0 rfl) ?_
  refine lv_iconst (v := 4) hx hb dX11_init_168 (by decide) ?_
  refine hNewP (k := 1) (r := 84) (N := 4) (atype := .long) (ty := .long) (a0 := (4, .inr (.inl (fun _ => 0)))) hx hb hts hH rfl kac_long rfl rfl rfl (eN_J rfl rfl) (by decide) (by decide) (by decide) (by decide) (by decide) dX11_init_169 (fun q41 L41 C41 I41 J41 R41 H g41 eI41 eJ41 eR41 hH => ?_)
  have nq41 : q41 ∉ L0 := fun h => g41.2.2 (old q41 h).1
  have rra0 : R41 a0 = rl [(23, q39), (22, q37), (20, q35), (19, q33), (17, q31), (16, q29), (15, q27), (14, q25), (13, q23), (12, q21), (11, q19), (10, q17), (9, q15), (8, q13), (7, q11), (6, q9), (5, q7), (4, q5), (3, q3), (2, q1)] := by rw [eR41, va_up_ne _ _ (g41.ne ma0)]; exact rra0
  have ria0 : I41 a0 = il [] := by rw [eI41, va_up_ne _ _ (g41.ne ma0)]; exact ria0
  have ka0 := g41.role ma0 ka0
  have ma0 := g41.mem ma0
  have mq41 := g41.new
  have kq41 := g41.at
  have aq := aq.new g41 eI41
  have al := al.new g41 eI41
  have z0 := z0.new g41 eI41 eJ41
  have ow0 := ow0.new g41 eR41
  have al := al.con0 mq41 kq41 rfl
  have kk := kk.new g41 eI41 eR41 zz_84 zr_84 (Or.inr rfl) (by decide)
  have old := old.new g41 eI41 eJ41 eR41
  refine pf_11_24 hx hb hts hown hH hin rfl ma0 ka0 rfl kf_X11_72 dX11_init_171 (fun R42 H locs eR42 hH => ?_)
  have rra0 : R42 a0 = rl [(24, q41), (23, q39), (22, q37), (20, q35), (19, q33), (17, q31), (16, q29), (15, q27), (14, q25), (13, q23), (12, q21), (11, q19), (10, q17), (9, q15), (8, q13), (7, q11), (6, q9), (5, q7), (4, q5), (3, q3), (2, q1)] := by rw [eR42]; exact rl_put rra0
  have kk : KK L41 C41 I41 R42 [84, 83, 82, 81, 80, 79, 78, 77, 76, 75, 74, 73, 72, 71, 70, 69, 68, 67, 66, 65, 64, 27, 0, 1, 2, 3, 4, 5, 6, 7, 8, 9, 10, 16, 17, 18, 19, 20, 21, 22, 23, 24, 25, 26, 32, 33, 34, 35, 36, 37, 38, 39, 40, 41, 42, 43, 44, 45, 46, 47, 48, 49, 50, 51, 52, 53, 54, 55, 56, 57, 58, 59, 60] := by rw [eR42]; exact kk.stR ka0 zr_27
  have old : Old L0 C0 (I0, J0, R0) a0 L41 C41 I41 J41 R42 := by rw [eR42]; exact old.stR (Or.inl rfl)
  have ow0 := ow0.stR ka0 rfl eR42
  refine lv_aload_n hx hb dX11_init_174 rfl (lv_at hl 0 rfl) ?_
  refine lv_bipush (v := 49) hx hb dX11_init_175 (by decide) ?_
  refine hNewP (k := 0) (r := 85) (N := 49) (atype := .int) (ty := .int) (a0 := (49, .inl (fun _ => 0))) hx hb hts hH rfl kac_int rfl rfl rfl (eN_I rfl rfl) (by decide) (by decide) (by decide) (by decide) (by decide) dX11_init_177 (fun q43 L43 C43 I43 J43 R43 H g43 eI43 eJ43 eR43 hH => ?_)
  have nq43 : q43 ∉ L0 := fun h => g43.2.2 (old q43 h).1
  have rra0 : R43 a0 = rl [(24, q41), (23, q39), (22, q37), (20, q35), (19, q33), (17, q31), (16, q29), (15, q27), (14, q25), (13, q23), (12, q21), (11, q19), (10, q17), (9, q15), (8, q13), (7, q11), (6, q9), (5, q7), (4, q5), (3, q3), (2, q1)] := by rw [eR43, va_up_ne _ _ (g43.ne ma0)]; exact rra0
  have ria0 : I43 a0 = il [] := by rw [eI43, va_up_ne _ _ (g43.ne ma0)]; exact ria0
  have ka0 := g43.role ma0 ka0
  have ma0 := g43.mem ma0
  have mq43 := g43.new
  have kq43 := g43.at
  have aq := aq.new g43 eI43
  have al := al.new g43 eI43
  have z0 := z0.new g43 eI43 eJ43
  have ow0 := ow0.new g43 eR43
  have al := al.con0 mq43 kq43 rfl
  have kk := kk.new g43 eI43 eR43 zz_85 zr_85 (Or.inr rfl) (by decide)
  have old := old.new g43 eI43 eJ43 eR43
  refine pf_11_32 hx hb hts hown hH hin rfl ma0 ka0 rfl kf_X11_75 dX11_init_179 (fun R44 H locs eR44 hH => ?_)
  have rra0 : R44 a0 = rl [(32, q43), (24, q41), (23, q39), (22, q37), (20, q35), (19, q33), (17, q31), (16, q29), (15, q27), (14, q25), (13, q23), (12, q21), (11, q19), (10, q17), (9, q15), (8, q13), (7, q11), (6, q9), (5, q7), (4, q5), (3, q3), (2, q1)] := by rw [eR44]; exact rl_put rra0
  have kk : KK L43 C43 I43 R44 [85, 84, 83, 82, 81, 80, 79, 78, 77, 76, 75, 74, 73, 72, 71, 70, 69, 68, 67, 66, 65, 64, 27, 0, 1, 2, 3, 4, 5, 6, 7, 8, 9, 10, 16, 17, 18, 19, 20, 21, 22, 23, 24, 25, 26, 32, 33, 34, 35, 36, 37, 38, 39, 40, 41, 42, 43, 44, 45, 46, 47, 48, 49, 50, 51, 52, 53, 54, 55, 56, 57, 58, 59, 60] := by rw [eR44]; exact kk.stR ka0 zr_27
  have old : Old L0 C0 (I0, J0, R0) a0 L43 C43 I43 J43 R44 := by rw [eR44]; exact old.stR (Or.inl rfl)
  have ow0 := ow0.stR ka0 rfl eR44
  refine lv_aload_n hx hb dX11_init_182 rfl (lv_at hl 0 rfl) ?_
  refine lv_bipush (v := 49) hx hb dX11_init_183 (by decide) ?_
  refine hNewP (k := 0) (r := 86) (N := 49) (atype := .int) (ty := .int) (a0 := (49, .inl (fun _ => 0))) hx hb hts hH rfl kac_int rfl rfl rfl (eN_I rfl rfl) (by decide) (by decide) (by decide) (by decide) (by decide) dX11_init_185 (fun q45 L45 C45 I45 J45 R45 H g45 eI45 eJ45 eR45 hH => ?_)
  have nq45 : q45 ∉ L0 := fun h => g45.2.2 (old q45 h).1
  have rra0 : R45 a0 = rl [(32, q43), (24, q41), (23, q39), (22, q37), (20, q35), (19, q33), (17, q31), (16, q29), (15, q27), (14, q25), (13, q23), (12, q21), (11, q19), (10, q17), (9, q15), (8, q13), (7, q11), (6, q9), (5, q7), (4, q5), (3, q3), (2, q1)] := by rw [eR45, va_up_ne _ _ (g45.ne ma0)]; exact rra0
  have ria0 : I45 a0 = il [] := by rw [eI45, va_up_ne _ _ (g45.ne ma0)]; exact ria0
  have ka0 := g45.role ma0 ka0
  have ma0 := g45.mem ma0
  have mq45 := g45.new
  have kq45 := g45.at
  have aq := aq.new g45 eI45
  have al := al.new g45 eI45
  have z0 := z0.new g45 eI45 eJ45
  have ow0 := ow0.new g45 eR45
  have al := al.con0 mq45 kq45 rfl
  have kk := kk.new g45 eI45 eR45 zz_86 zr_86 (Or.inr rfl) (by decide)
  have old := old.new g45 eI45 eJ45 eR45
  refine pf_11_33 hx hb hts hown hH hin rfl ma0 ka0 rfl kf_X11_78 dX11_init_187 (fun R46 H locs eR46 hH => ?_)
  have rra0 : R46 a0 = rl [(33, q45), (32, q43), (24, q41), (23, q39), (22, q37), (20, q35), (19, q33), (17, q31), (16, q29), (15, q27), (14, q25), (13, q23), (12, q21), (11, q19), (10, q17), (9, q15), (8, q13), (7, q11), (6, q9), (5, q7), (4, q5), (3, q3), (2, q1)] := by rw [eR46]; exact rl_put rra0
  have kk : KK L45 C45 I45 R46 [86, 85, 84, 83, 82, 81, 80, 79, 78, 77, 76, 75, 74, 73, 72, 71, 70, 69, 68, 67, 66, 65, 64, 27, 0, 1, 2, 3, 4, 5, 6, 7, 8, 9, 10, 16, 17, 18, 19, 20, 21, 22, 23, 24, 25, 26, 32, 33, 34, 35, 36, 37, 38, 39, 40, 41, 42, 43, 44, 45, 46, 47, 48, 49, 50, 51, 52, 53, 54, 55, 56, 57, 58, 59, 60] := by rw [eR46]; exact kk.stR ka0 zr_27
  have old : Old L0 C0 (I0, J0, R0) a0 L45 C45 I45 J45 R46 := by rw [eR46]; exact old.stR (Or.inl rfl)
  have ow0 := ow0.stR ka0 rfl eR46
  refine lv_aload_n hx hb dX11_init_190 rfl (lv_at hl 0 rfl) ?_
  refine lv_sipush (v := 294) hx hb dX11_init_191 (by decide) ?_
  refine hNewP (k := 0) (r := 87) (N := 294) (atype := .int) (ty := .int) (a0 := (294, .inl (fun _ => 0))) hx hb hts hH rfl kac_int rfl rfl rfl (eN_I rfl rfl) (by decide) (by decide) (by decide) (by decide) (by decide) dX11_init_194 (fun q47 L47 C47 I47 J47 R47 H g47 eI47 eJ47 eR47 hH => ?_)
  have nq47 : q47 ∉ L0 := fun h => g47.2.2 (old q47 h).1
  have rra0 : R47 a0 = rl [(33, q45), (32, q43), (24, q41), (23, q39), (22, q37), (20, q35), (19, q33), (17, q31), (16, q29), (15, q27), (14, q25), (13, q23), (12, q21), (11, q19), (10, q17), (9, q15), (8, q13), (7, q11), (6, q9), (5, q7), (4, q5), (3, q3), (2, q1)] := by rw [eR47, va_up_ne _ _ (g47.ne ma0)]; exact rra0
  have ria0 : I47 a0 = il [] := by rw [eI47, va_up_ne _ _ (g47.ne ma0)]; exact ria0
  have ka0 := g47.role ma0 ka0
  have ma0 := g47.mem ma0
  have mq47 := g47.new
  have kq47 := g47.at
  have aq := aq.new g47 eI47
  have al := al.new g47 eI47
  have z0 := z0.new g47 eI47 eJ47
  have ow0 := ow0.new g47 eR47
  have al := al.con0 mq47 kq47 rfl
  have kk := kk.new g47 eI47 eR47 zz_87 zr_87 (Or.inr rfl) (by decide)
  have old := old.new g47 eI47 eJ47 eR47
  refine pf_11_34 hx hb hts hown hH hin rfl ma0 ka0 rfl kf_X11_81 dX11_init_196 (fun R48 H locs eR48 hH => ?_)
  have rra0 : R48 a0 = rl [(34, q47), (33, q45), (32, q43), (24, q41), (23, q39), (22, q37), (20, q35), (19, q33), (17, q31), (16, q29), (15, q27), (14, q25), (13, q23), (12, q21), (11, q19), (10, q17), (9, q15), (8, q13), (7, q11), (6, q9), (5, q7), (4, q5), (3, q3), (2, q1)] := by rw [eR48]; exact rl_put rra0
  have kk : KK L47 C47 I47 R48 [87, 86, 85, 84, 83, 82, 81, 80, 79, 78, 77, 76, 75, 74, 73, 72, 71, 70, 69, 68, 67, 66, 65, 64, 27, 0, 1, 2, 3, 4, 5, 6, 7, 8, 9, 10, 16, 17, 18, 19, 20, 21, 22, 23, 24, 25, 26, 32, 33, 34, 35, 36, 37, 38, 39, 40, 41, 42, 43, 44, 45, 46, 47, 48, 49, 50, 51, 52, 53, 54, 55, 56, 57, 58, 59, 60] := by rw [eR48]; exact kk.stR ka0 zr_27
  have old : Old L0 C0 (I0, J0, R0) a0 L47 C47 I47 J47 R48 := by rw [eR48]; exact old.stR (Or.inl rfl)
  have ow0 := ow0.stR ka0 rfl eR48
  refine lv_aload_n hx hb dX11_init_199 rfl (lv_at hl 0 rfl) ?_
  refine lv_bipush (v := 49) hx hb dX11_init_200 (by decide) ?_
  refine hNewP (k := 0) (r := 88) (N := 49) (atype := .int) (ty := .int) (a0 := (49, .inl (fun _ => 0))) hx hb hts hH rfl kac_int rfl rfl rfl (eN_I rfl rfl) (by decide) (by decide) (by decide) (by decide) (by decide) dX11_init_202 (fun q49 L49 C49 I49 J49 R49 H g49 eI49 eJ49 eR49 hH => ?_)
  have nq49 : q49 ∉ L0 := fun h => g49.2.2 (old q49 h).1
  have rra0 : R49 a0 = rl [(34, q47), (33, q45), (32, q43), (24, q41), (23, q39), (22, q37), (20, q35), (19, q33), (17, q31), (16, q29), (15, q27), (14, q25), (13, q23), (12, q21), (11, q19), (10, q17), (9, q15), (8, q13), (7, q11), (6, q9), (5, q7), (4, q5), (3, q3), (2, q1)] := by rw [eR49, va_up_ne _ _ (g49.ne ma0)]; exact rra0
  have ria0 : I49 a0 = il [] := by rw [eI49, va_up_ne _ _ (g49.ne ma0)]; exact ria0
  have ka0 := g49.role ma0 ka0
  have ma0 := g49.mem ma0
  have mq49 := g49.new
  have kq49 := g49.at
  have aq := aq.new g49 eI49
  have al := al.new g49 eI49
  have z0 := z0.new g49 eI49 eJ49
  have ow0 := ow0.new g49 eR49
  have al := al.con0 mq49 kq49 rfl
  have kk := kk.new g49 eI49 eR49 zz_88 zr_88 (Or.inr rfl) (by decide)
  have old := old.new g49 eI49 eJ49 eR49
  refine pf_11_35 hx hb hts hown hH hin rfl ma0 ka0 rfl kf_X11_84 dX11_init_204 (fun R50 H locs eR50 hH => ?_)
  have rra0 : R50 a0 = rl [(35, q49), (34, q47), (33, q45), (32, q43), (24, q41), (23, q39), (22, q37), (20, q35), (19, q33), (17, q31), (16, q29), (15, q27), (14, q25), (13, q23), (12, q21), (11, q19), (10, q17), (9, q15), (8, q13), (7, q11), (6, q9), (5, q7), (4, q5), (3, q3), (2, q1)] := by rw [eR50]; exact rl_put rra0
  have kk : KK L49 C49 I49 R50 [88, 87, 86, 85, 84, 83, 82, 81, 80, 79, 78, 77, 76, 75, 74, 73, 72, 71, 70, 69, 68, 67, 66, 65, 64, 27, 0, 1, 2, 3, 4, 5, 6, 7, 8, 9, 10, 16, 17, 18, 19, 20, 21, 22, 23, 24, 25, 26, 32, 33, 34, 35, 36, 37, 38, 39, 40, 41, 42, 43, 44, 45, 46, 47, 48, 49, 50, 51, 52, 53, 54, 55, 56, 57, 58, 59, 60] := by rw [eR50]; exact kk.stR ka0 zr_27
  have old : Old L0 C0 (I0, J0, R0) a0 L49 C49 I49 J49 R50 := by rw [eR50]; exact old.stR (Or.inl rfl)
  have ow0 := ow0.stR ka0 rfl eR50
  refine lv_aload_n hx hb dX11_init_207 rfl (lv_at hl 0 rfl) ?_
  refine lv_sipush (v := 294) hx hb dX11_init_208 (by decide) ?_
  refine hNewP (k := 0) (r := 89) (N := 294) (atype := .int) (ty := .int) (a0 := (294, .inl (fun _ => 0))) hx hb hts hH rfl kac_int rfl rfl rfl (eN_I rfl rfl) (by decide) (by decide) (by decide) (by decide) (by decide) dX11_init_211 (fun q51 L51 C51 I51 J51 R51 H g51 eI51 eJ51 eR51 hH => ?_)
  have nq51 : q51 ∉ L0 := fun h => g51.2.2 (old q51 h).1
  have rra0 : R51 a0 = rl [(35, q49), (34, q47), (33, q45), (32, q43), (24, q41), (23, q39), (22, q37), (20, q35), (19, q33), (17, q31), (16, q29), (15, q27), (14, q25), (13, q23), (12, q21), (11, q19), (10, q17), (9, q15), (8, q13), (7, q11), (6, q9), (5, q7), (4, q5), (3, q3), (2, q1)] := by rw [eR51, va_up_ne _ _ (g51.ne ma0)]; exact rra0
  have ria0 : I51 a0 = il [] := by rw [eI51, va_up_ne _ _ (g51.ne ma0)]; exact ria0
  have ka0 := g51.role ma0 ka0
  have ma0 := g51.mem ma0
  have mq51 := g51.new
  have kq51 := g51.at
  have aq := aq.new g51 eI51
  have al := al.new g51 eI51
  have z0 := z0.new g51 eI51 eJ51
  have ow0 := ow0.new g51 eR51
  have al := al.con0 mq51 kq51 rfl
  have kk := kk.new g51 eI51 eR51 zz_89 zr_89 (Or.inr rfl) (by decide)
  have old := old.new g51 eI51 eJ51 eR51
  refine pf_11_36 hx hb hts hown hH hin rfl ma0 ka0 rfl kf_X11_87 dX11_init_213 (fun R52 H locs eR52 hH => ?_)
  have rra0 : R52 a0 = rl [(36, q51), (35, q49), (34, q47), (33, q45), (32, q43), (24, q41), (23, q39), (22, q37), (20, q35), (19, q33), (17, q31), (16, q29), (15, q27), (14, q25), (13, q23), (12, q21), (11, q19), (10, q17), (9, q15), (8, q13), (7, q11), (6, q9), (5, q7), (4, q5), (3, q3), (2, q1)] := by rw [eR52]; exact rl_put rra0
  have kk : KK L51 C51 I51 R52 [89, 88, 87, 86, 85, 84, 83, 82, 81, 80, 79, 78, 77, 76, 75, 74, 73, 72, 71, 70, 69, 68, 67, 66, 65, 64, 27, 0, 1, 2, 3, 4, 5, 6, 7, 8, 9, 10, 16, 17, 18, 19, 20, 21, 22, 23, 24, 25, 26, 32, 33, 34, 35, 36, 37, 38, 39, 40, 41, 42, 43, 44, 45, 46, 47, 48, 49, 50, 51, 52, 53, 54, 55, 56, 57, 58, 59, 60] := by rw [eR52]; exact kk.stR ka0 zr_27
  have old : Old L0 C0 (I0, J0, R0) a0 L51 C51 I51 J51 R52 := by rw [eR52]; exact old.stR (Or.inl rfl)
  have ow0 := ow0.stR ka0 rfl eR52
  refine lv_aload_n hx hb dX11_init_216 rfl (lv_at hl 0 rfl) ?_
  refine lv_iconst (v := 4) hx hb dX11_init_217 (by decide) ?_
  refine hNewP (k := 0) (r := 90) (N := 4) (atype := .int) (ty := .int) (a0 := (4, .inl (fun _ => 0))) hx hb hts hH rfl kac_int rfl rfl rfl (eN_I rfl rfl) (by decide) (by decide) (by decide) (by decide) (by decide) dX11_init_218 (fun q53 L53 C53 I53 J53 R53 H g53 eI53 eJ53 eR53 hH => ?_)
  have nq53 : q53 ∉ L0 := fun h => g53.2.2 (old q53 h).1
  have rra0 : R53 a0 = rl [(36, q51), (35, q49), (34, q47), (33, q45), (32, q43), (24, q41), (23, q39), (22, q37), (20, q35), (19, q33), (17, q31), (16, q29), (15, q27), (14, q25), (13, q23), (12, q21), (11, q19), (10, q17), (9, q15), (8, q13), (7, q11), (6, q9), (5, q7), (4, q5), (3, q3), (2, q1)] := by rw [eR53, va_up_ne _ _ (g53.ne ma0)]; exact rra0
  have ria0 : I53 a0 = il [] := by rw [eI53, va_up_ne _ _ (g53.ne ma0)]; exact ria0
  have ka0 := g53.role ma0 ka0
  have ma0 := g53.mem ma0
  have mq53 := g53.new
  have kq53 := g53.at
  have aq := aq.new g53 eI53
  have al := al.new g53 eI53
  have z0 := z0.new g53 eI53 eJ53
  have ow0 := ow0.new g53 eR53
  have al := al.con0 mq53 kq53 rfl
  have kk := kk.new g53 eI53 eR53 zz_90 zr_90 (Or.inr rfl) (by decide)
  have old := old.new g53 eI53 eJ53 eR53
  refine pf_11_38 hx hb hts hown hH hin rfl ma0 ka0 rfl kf_X11_90 dX11_init_220 (fun R54 H locs eR54 hH => ?_)
  have rra0 : R54 a0 = rl [(38, q53), (36, q51), (35, q49), (34, q47), (33, q45), (32, q43), (24, q41), (23, q39), (22, q37), (20, q35), (19, q33), (17, q31), (16, q29), (15, q27), (14, q25), (13, q23), (12, q21), (11, q19), (10, q17), (9, q15), (8, q13), (7, q11), (6, q9), (5, q7), (4, q5), (3, q3), (2, q1)] := by rw [eR54]; exact rl_put rra0
  have kk : KK L53 C53 I53 R54 [90, 89, 88, 87, 86, 85, 84, 83, 82, 81, 80, 79, 78, 77, 76, 75, 74, 73, 72, 71, 70, 69, 68, 67, 66, 65, 64, 27, 0, 1, 2, 3, 4, 5, 6, 7, 8, 9, 10, 16, 17, 18, 19, 20, 21, 22, 23, 24, 25, 26, 32, 33, 34, 35, 36, 37, 38, 39, 40, 41, 42, 43, 44, 45, 46, 47, 48, 49, 50, 51, 52, 53, 54, 55, 56, 57, 58, 59, 60] := by rw [eR54]; exact kk.stR ka0 zr_27
  have old : Old L0 C0 (I0, J0, R0) a0 L53 C53 I53 J53 R54 := by rw [eR54]; exact old.stR (Or.inl rfl)
  have ow0 := ow0.stR ka0 rfl eR54
  refine lv_aload_n hx hb dX11_init_223 rfl (lv_at hl 0 rfl) ?_
  refine lv_iconst (v := 4) hx hb dX11_init_224 (by decide) ?_
  refine hNewP (k := 0) (r := 91) (N := 4) (atype := .int) (ty := .int) (a0 := (4, .inl (fun _ => 0))) hx hb hts hH rfl kac_int rfl rfl rfl (eN_I rfl rfl) (by decide) (by decide) (by decide) (by decide) (by decide) dX11_init_225 (fun q55 L55 C55 I55 J55 R55 H g55 eI55 eJ55 eR55 hH => ?_)
  have nq55 : q55 ∉ L0 := fun h => g55.2.2 (old q55 h).1
  have rra0 : R55 a0 = rl [(38, q53), (36, q51), (35, q49), (34, q47), (33, q45), (32, q43), (24, q41), (23, q39), (22, q37), (20, q35), (19, q33), (17, q31), (16, q29), (15, q27), (14, q25), (13, q23), (12, q21), (11, q19), (10, q17), (9, q15), (8, q13), (7, q11), (6, q9), (5, q7), (4, q5), (3, q3), (2, q1)] := by rw [eR55, va_up_ne _ _ (g55.ne ma0)]; exact rra0
  have ria0 : I55 a0 = il [] := by rw [eI55, va_up_ne _ _ (g55.ne ma0)]; exact ria0
  have ka0 := g55.role ma0 ka0
  have ma0 := g55.mem ma0
  have mq55 := g55.new
  have kq55 := g55.at
  have aq := aq.new g55 eI55
  have al := al.new g55 eI55
  have z0 := z0.new g55 eI55 eJ55
  have ow0 := ow0.new g55 eR55
  have al := al.con0 mq55 kq55 rfl
  have kk := kk.new g55 eI55 eR55 zz_91 zr_91 (Or.inr rfl) (by decide)
  have old := old.new g55 eI55 eJ55 eR55
  refine pf_11_39 hx hb hts hown hH hin rfl ma0 ka0 rfl kf_X11_93 dX11_init_227 (fun R56 H locs eR56 hH => ?_)
  have rra0 : R56 a0 = rl [(39, q55), (38, q53), (36, q51), (35, q49), (34, q47), (33, q45), (32, q43), (24, q41), (23, q39), (22, q37), (20, q35), (19, q33), (17, q31), (16, q29), (15, q27), (14, q25), (13, q23), (12, q21), (11, q19), (10, q17), (9, q15), (8, q13), (7, q11), (6, q9), (5, q7), (4, q5), (3, q3), (2, q1)] := by rw [eR56]; exact rl_put rra0
  have kk : KK L55 C55 I55 R56 [91, 90, 89, 88, 87, 86, 85, 84, 83, 82, 81, 80, 79, 78, 77, 76, 75, 74, 73, 72, 71, 70, 69, 68, 67, 66, 65, 64, 27, 0, 1, 2, 3, 4, 5, 6, 7, 8, 9, 10, 16, 17, 18, 19, 20, 21, 22, 23, 24, 25, 26, 32, 33, 34, 35, 36, 37, 38, 39, 40, 41, 42, 43, 44, 45, 46, 47, 48, 49, 50, 51, 52, 53, 54, 55, 56, 57, 58, 59, 60] := by rw [eR56]; exact kk.stR ka0 zr_27
  have old : Old L0 C0 (I0, J0, R0) a0 L55 C55 I55 J55 R56 := by rw [eR56]; exact old.stR (Or.inl rfl)
  have ow0 := ow0.stR ka0 rfl eR56
  refine lv_aload_n hx hb dX11_init_230 rfl (lv_at hl 0 rfl) ?_
  refine lv_iconst (v := 4) hx hb dX11_init_231 (by decide) ?_
  refine hNewP (k := 0) (r := 92) (N := 4) (atype := .int) (ty := .int) (a0 := (4, .inl (fun _ => 0))) hx hb hts hH rfl kac_int rfl rfl rfl (eN_I rfl rfl) (by decide) (by decide) (by decide) (by decide) (by decide) dX11_init_232 (fun q57 L57 C57 I57 J57 R57 H g57 eI57 eJ57 eR57 hH => ?_)
  have nq57 : q57 ∉ L0 := fun h => g57.2.2 (old q57 h).1
  have rra0 : R57 a0 = rl [(39, q55), (38, q53), (36, q51), (35, q49), (34, q47), (33, q45), (32, q43), (24, q41), (23, q39), (22, q37), (20, q35), (19, q33), (17, q31), (16, q29), (15, q27), (14, q25), (13, q23), (12, q21), (11, q19), (10, q17), (9, q15), (8, q13), (7, q11), (6, q9), (5, q7), (4, q5), (3, q3), (2, q1)] := by rw [eR57, va_up_ne _ _ (g57.ne ma0)]; exact rra0
  have ria0 : I57 a0 = il [] := by rw [eI57, va_up_ne _ _ (g57.ne ma0)]; exact ria0
  have ka0 := g57.role ma0 ka0
  have ma0 := g57.mem ma0
  have mq57 := g57.new
  have kq57 := g57.at
  have aq := aq.new g57 eI57
  have al := al.new g57 eI57
  have z0 := z0.new g57 eI57 eJ57
  have ow0 := ow0.new g57 eR57
  have al := al.con0 mq57 kq57 rfl
  have kk := kk.new g57 eI57 eR57 zz_92 zr_92 (Or.inr rfl) (by decide)
  have old := old.new g57 eI57 eJ57 eR57
  refine pf_11_43 hx hb hts hown hH hin rfl ma0 ka0 rfl kf_X11_96 dX11_init_234 (fun R58 H locs eR58 hH => ?_)
  have rra0 : R58 a0 = rl [(43, q57), (39, q55), (38, q53), (36, q51), (35, q49), (34, q47), (33, q45), (32, q43), (24, q41), (23, q39), (22, q37), (20, q35), (19, q33), (17, q31), (16, q29), (15, q27), (14, q25), (13, q23), (12, q21), (11, q19), (10, q17), (9, q15), (8, q13), (7, q11), (6, q9), (5, q7), (4, q5), (3, q3), (2, q1)] := by rw [eR58]; exact rl_put rra0
  have kk : KK L57 C57 I57 R58 [92, 91, 90, 89, 88, 87, 86, 85, 84, 83, 82, 81, 80, 79, 78, 77, 76, 75, 74, 73, 72, 71, 70, 69, 68, 67, 66, 65, 64, 27, 0, 1, 2, 3, 4, 5, 6, 7, 8, 9, 10, 16, 17, 18, 19, 20, 21, 22, 23, 24, 25, 26, 32, 33, 34, 35, 36, 37, 38, 39, 40, 41, 42, 43, 44, 45, 46, 47, 48, 49, 50, 51, 52, 53, 54, 55, 56, 57, 58, 59, 60] := by rw [eR58]; exact kk.stR ka0 zr_27
  have old : Old L0 C0 (I0, J0, R0) a0 L57 C57 I57 J57 R58 := by rw [eR58]; exact old.stR (Or.inl rfl)
  have ow0 := ow0.stR ka0 rfl eR58
  refine lv_aload_n hx hb dX11_init_237 rfl (lv_at hl 0 rfl) ?_
  refine lv_bipush (v := 100) hx hb dX11_init_238 (by decide) ?_
  refine hNewP (k := 0) (r := 93) (N := 100) (atype := .int) (ty := .int) (a0 := (100, .inl (fun _ => 0))) hx hb hts hH rfl kac_int rfl rfl rfl (eN_I rfl rfl) (by decide) (by decide) (by decide) (by decide) (by decide) dX11_init_240 (fun q59 L59 C59 I59 J59 R59 H g59 eI59 eJ59 eR59 hH => ?_)
  have nq59 : q59 ∉ L0 := fun h => g59.2.2 (old q59 h).1
  have rra0 : R59 a0 = rl [(43, q57), (39, q55), (38, q53), (36, q51), (35, q49), (34, q47), (33, q45), (32, q43), (24, q41), (23, q39), (22, q37), (20, q35), (19, q33), (17, q31), (16, q29), (15, q27), (14, q25), (13, q23), (12, q21), (11, q19), (10, q17), (9, q15), (8, q13), (7, q11), (6, q9), (5, q7), (4, q5), (3, q3), (2, q1)] := by rw [eR59, va_up_ne _ _ (g59.ne ma0)]; exact rra0
  have ria0 : I59 a0 = il [] := by rw [eI59, va_up_ne _ _ (g59.ne ma0)]; exact ria0
  have ka0 := g59.role ma0 ka0
  have ma0 := g59.mem ma0
  have mq59 := g59.new
  have kq59 := g59.at
  have aq := aq.new g59 eI59
  have al := al.new g59 eI59
  have z0 := z0.new g59 eI59 eJ59
  have ow0 := ow0.new g59 eR59
  have al := al.con0 mq59 kq59 rfl
  have kk := kk.new g59 eI59 eR59 zz_93 zr_93 (Or.inr rfl) (by decide)
  have old := old.new g59 eI59 eJ59 eR59
  refine pf_11_44 hx hb hts hown hH hin rfl ma0 ka0 rfl kf_X11_99 dX11_init_242 (fun R60 H locs eR60 hH => ?_)
  have rra0 : R60 a0 = rl [(44, q59), (43, q57), (39, q55), (38, q53), (36, q51), (35, q49), (34, q47), (33, q45), (32, q43), (24, q41), (23, q39), (22, q37), (20, q35), (19, q33), (17, q31), (16, q29), (15, q27), (14, q25), (13, q23), (12, q21), (11, q19), (10, q17), (9, q15), (8, q13), (7, q11), (6, q9), (5, q7), (4, q5), (3, q3), (2, q1)] := by rw [eR60]; exact rl_put rra0
  have kk : KK L59 C59 I59 R60 [93, 92, 91, 90, 89, 88, 87, 86, 85, 84, 83, 82, 81, 80, 79, 78, 77, 76, 75, 74, 73, 72, 71, 70, 69, 68, 67, 66, 65, 64, 27, 0, 1, 2, 3, 4, 5, 6, 7, 8, 9, 10, 16, 17, 18, 19, 20, 21, 22, 23, 24, 25, 26, 32, 33, 34, 35, 36, 37, 38, 39, 40, 41, 42, 43, 44, 45, 46, 47, 48, 49, 50, 51, 52, 53, 54, 55, 56, 57, 58, 59, 60] := by rw [eR60]; exact kk.stR ka0 zr_27
  have old : Old L0 C0 (I0, J0, R0) a0 L59 C59 I59 J59 R60 := by rw [eR60]; exact old.stR (Or.inl rfl)
  have ow0 := ow0.stR ka0 rfl eR60
  refine lv_aload_n hx hb dX11_init_245 rfl (lv_at hl 0 rfl) ?_
  refine lv_sipush (v := 1000) hx hb dX11_init_246 (by decide) ?_
  refine hNewP (k := 0) (r := 94) (N := 1000) (atype := .int) (ty := .int) (a0 := (1000, .inl (fun _ => 0))) hx hb hts hH rfl kac_int rfl rfl rfl (eN_I rfl rfl) (by decide) (by decide) (by decide) (by decide) (by decide) dX11_init_249 (fun q61 L61 C61 I61 J61 R61 H g61 eI61 eJ61 eR61 hH => ?_)
  have nq61 : q61 ∉ L0 := fun h => g61.2.2 (old q61 h).1
  have rra0 : R61 a0 = rl [(44, q59), (43, q57), (39, q55), (38, q53), (36, q51), (35, q49), (34, q47), (33, q45), (32, q43), (24, q41), (23, q39), (22, q37), (20, q35), (19, q33), (17, q31), (16, q29), (15, q27), (14, q25), (13, q23), (12, q21), (11, q19), (10, q17), (9, q15), (8, q13), (7, q11), (6, q9), (5, q7), (4, q5), (3, q3), (2, q1)] := by rw [eR61, va_up_ne _ _ (g61.ne ma0)]; exact rra0
  have ria0 : I61 a0 = il [] := by rw [eI61, va_up_ne _ _ (g61.ne ma0)]; exact ria0
  have ka0 := g61.role ma0 ka0
  have ma0 := g61.mem ma0
  have mq61 := g61.new
  have kq61 := g61.at
  have aq := aq.new g61 eI61
  have al := al.new g61 eI61
  have z0 := z0.new g61 eI61 eJ61
  have ow0 := ow0.new g61 eR61
  have al := al.con0 mq61 kq61 rfl
  have kk := kk.new g61 eI61 eR61 zz_94 zr_94 (Or.inr rfl) (by decide)
  have old := old.new g61 eI61 eJ61 eR61
  refine pf_11_45 hx hb hts hown hH hin rfl ma0 ka0 rfl kf_X11_102 dX11_init_251 (fun R62 H locs eR62 hH => ?_)
  have rra0 : R62 a0 = rl [(45, q61), (44, q59), (43, q57), (39, q55), (38, q53), (36, q51), (35, q49), (34, q47), (33, q45), (32, q43), (24, q41), (23, q39), (22, q37), (20, q35), (19, q33), (17, q31), (16, q29), (15, q27), (14, q25), (13, q23), (12, q21), (11, q19), (10, q17), (9, q15), (8, q13), (7, q11), (6, q9), (5, q7), (4, q5), (3, q3), (2, q1)] := by rw [eR62]; exact rl_put rra0
  have kk : KK L61 C61 I61 R62 [94, 93, 92, 91, 90, 89, 88, 87, 86, 85, 84, 83, 82, 81, 80, 79, 78, 77, 76, 75, 74, 73, 72, 71, 70, 69, 68, 67, 66, 65, 64, 27, 0, 1, 2, 3, 4, 5, 6, 7, 8, 9, 10, 16, 17, 18, 19, 20, 21, 22, 23, 24, 25, 26, 32, 33, 34, 35, 36, 37, 38, 39, 40, 41, 42, 43, 44, 45, 46, 47, 48, 49, 50, 51, 52, 53, 54, 55, 56, 57, 58, 59, 60] := by rw [eR62]; exact kk.stR ka0 zr_27
  have old : Old L0 C0 (I0, J0, R0) a0 L61 C61 I61 J61 R62 := by rw [eR62]; exact old.stR (Or.inl rfl)
  have ow0 := ow0.stR ka0 rfl eR62
  refine lv_aload_n hx hb dX11_init_254 rfl (lv_at hl 0 rfl) ?_
  refine lv_bipush (v := 100) hx hb dX11_init_255 (by decide) ?_
  refine hNewP (k := 0) (r := 95) (N := 100) (atype := .int) (ty := .int) (a0 := (100, .inl (fun _ => 0))) hx hb hts hH rfl kac_int rfl rfl rfl (eN_I rfl rfl) (by decide) (by decide) (by decide) (by decide) (by decide) dX11_init_257 (fun q63 L63 C63 I63 J63 R63 H g63 eI63 eJ63 eR63 hH => ?_)
  have nq63 : q63 ∉ L0 := fun h => g63.2.2 (old q63 h).1
  have rra0 : R63 a0 = rl [(45, q61), (44, q59), (43, q57), (39, q55), (38, q53), (36, q51), (35, q49), (34, q47), (33, q45), (32, q43), (24, q41), (23, q39), (22, q37), (20, q35), (19, q33), (17, q31), (16, q29), (15, q27), (14, q25), (13, q23), (12, q21), (11, q19), (10, q17), (9, q15), (8, q13), (7, q11), (6, q9), (5, q7), (4, q5), (3, q3), (2, q1)] := by rw [eR63, va_up_ne _ _ (g63.ne ma0)]; exact rra0
  have ria0 : I63 a0 = il [] := by rw [eI63, va_up_ne _ _ (g63.ne ma0)]; exact ria0
  have ka0 := g63.role ma0 ka0
  have ma0 := g63.mem ma0
  have mq63 := g63.new
  have kq63 := g63.at
  have aq := aq.new g63 eI63
  have al := al.new g63 eI63
  have z0 := z0.new g63 eI63 eJ63
  have ow0 := ow0.new g63 eR63
  have al := al.con0 mq63 kq63 rfl
  have kk := kk.new g63 eI63 eR63 zz_95 zr_95 (Or.inr rfl) (by decide)
  have old := old.new g63 eI63 eJ63 eR63
  refine pf_11_46 hx hb hts hown hH hin rfl ma0 ka0 rfl kf_X11_105 dX11_init_259 (fun R64 H locs eR64 hH => ?_)
  have rra0 : R64 a0 = rl [(46, q63), (45, q61), (44, q59), (43, q57), (39, q55), (38, q53), (36, q51), (35, q49), (34, q47), (33, q45), (32, q43), (24, q41), (23, q39), (22, q37), (20, q35), (19, q33), (17, q31), (16, q29), (15, q27), (14, q25), (13, q23), (12, q21), (11, q19), (10, q17), (9, q15), (8, q13), (7, q11), (6, q9), (5, q7), (4, q5), (3, q3), (2, q1)] := by rw [eR64]; exact rl_put rra0
  have kk : KK L63 C63 I63 R64 [95, 94, 93, 92, 91, 90, 89, 88, 87, 86, 85, 84, 83, 82, 81, 80, 79, 78, 77, 76, 75, 74, 73, 72, 71, 70, 69, 68, 67, 66, 65, 64, 27, 0, 1, 2, 3, 4, 5, 6, 7, 8, 9, 10, 16, 17, 18, 19, 20, 21, 22, 23, 24, 25, 26, 32, 33, 34, 35, 36, 37, 38, 39, 40, 41, 42, 43, 44, 45, 46, 47, 48, 49, 50, 51, 52, 53, 54, 55, 56, 57, 58, 59, 60] := by rw [eR64]; exact kk.stR ka0 zr_27
  have old : Old L0 C0 (I0, J0, R0) a0 L63 C63 I63 J63 R64 := by rw [eR64]; exact old.stR (Or.inl rfl)
  have ow0 := ow0.stR ka0 rfl eR64
  refine lv_aload_n hx hb dX11_init_262 rfl (lv_at hl 0 rfl) ?_
  refine lv_bipush (v := 10) hx hb dX11_init_263 (by decide) ?_
  refine hNewP (k := 0) (r := 96) (N := 10) (atype := .int) (ty := .int) (a0 := (10, .inl (fun _ => 0))) hx hb hts hH rfl kac_int rfl rfl rfl (eN_I rfl rfl) (by decide) (by decide) (by decide) (by decide) (by decide) dX11_init_265 (fun q65 L65 C65 I65 J65 R65 H g65 eI65 eJ65 eR65 hH => ?_)
  have nq65 : q65 ∉ L0 := fun h => g65.2.2 (old q65 h).1
  have rra0 : R65 a0 = rl [(46, q63), (45, q61), (44, q59), (43, q57), (39, q55), (38, q53), (36, q51), (35, q49), (34, q47), (33, q45), (32, q43), (24, q41), (23, q39), (22, q37), (20, q35), (19, q33), (17, q31), (16, q29), (15, q27), (14, q25), (13, q23), (12, q21), (11, q19), (10, q17), (9, q15), (8, q13), (7, q11), (6, q9), (5, q7), (4, q5), (3, q3), (2, q1)] := by rw [eR65, va_up_ne _ _ (g65.ne ma0)]; exact rra0
  have ria0 : I65 a0 = il [] := by rw [eI65, va_up_ne _ _ (g65.ne ma0)]; exact ria0
  have ka0 := g65.role ma0 ka0
  have ma0 := g65.mem ma0
  have mq65 := g65.new
  have kq65 := g65.at
  have aq := aq.new g65 eI65
  have al := al.new g65 eI65
  have z0 := z0.new g65 eI65 eJ65
  have ow0 := ow0.new g65 eR65
  have al := al.con0 mq65 kq65 rfl
  have kk := kk.new g65 eI65 eR65 zz_96 zr_96 (Or.inr rfl) (by decide)
  have old := old.new g65 eI65 eJ65 eR65
  refine pf_11_48 hx hb hts hown hH hin rfl ma0 ka0 rfl kf_X11_108 dX11_init_267 (fun R66 H locs eR66 hH => ?_)
  have rra0 : R66 a0 = rl [(48, q65), (46, q63), (45, q61), (44, q59), (43, q57), (39, q55), (38, q53), (36, q51), (35, q49), (34, q47), (33, q45), (32, q43), (24, q41), (23, q39), (22, q37), (20, q35), (19, q33), (17, q31), (16, q29), (15, q27), (14, q25), (13, q23), (12, q21), (11, q19), (10, q17), (9, q15), (8, q13), (7, q11), (6, q9), (5, q7), (4, q5), (3, q3), (2, q1)] := by rw [eR66]; exact rl_put rra0
  have kk : KK L65 C65 I65 R66 [96, 95, 94, 93, 92, 91, 90, 89, 88, 87, 86, 85, 84, 83, 82, 81, 80, 79, 78, 77, 76, 75, 74, 73, 72, 71, 70, 69, 68, 67, 66, 65, 64, 27, 0, 1, 2, 3, 4, 5, 6, 7, 8, 9, 10, 16, 17, 18, 19, 20, 21, 22, 23, 24, 25, 26, 32, 33, 34, 35, 36, 37, 38, 39, 40, 41, 42, 43, 44, 45, 46, 47, 48, 49, 50, 51, 52, 53, 54, 55, 56, 57, 58, 59, 60] := by rw [eR66]; exact kk.stR ka0 zr_27
  have old : Old L0 C0 (I0, J0, R0) a0 L65 C65 I65 J65 R66 := by rw [eR66]; exact old.stR (Or.inl rfl)
  have ow0 := ow0.stR ka0 rfl eR66
  refine lv_aload_n hx hb dX11_init_270 rfl (lv_at hl 0 rfl) ?_
  refine lv_bipush (v := 11) hx hb dX11_init_271 (by decide) ?_
  refine hNewP (k := 0) (r := 97) (N := 11) (atype := .int) (ty := .int) (a0 := (11, .inl (fun _ => 0))) hx hb hts hH rfl kac_int rfl rfl rfl (eN_I rfl rfl) (by decide) (by decide) (by decide) (by decide) (by decide) dX11_init_273 (fun q67 L67 C67 I67 J67 R67 H g67 eI67 eJ67 eR67 hH => ?_)
  have nq67 : q67 ∉ L0 := fun h => g67.2.2 (old q67 h).1
  have rra0 : R67 a0 = rl [(48, q65), (46, q63), (45, q61), (44, q59), (43, q57), (39, q55), (38, q53), (36, q51), (35, q49), (34, q47), (33, q45), (32, q43), (24, q41), (23, q39), (22, q37), (20, q35), (19, q33), (17, q31), (16, q29), (15, q27), (14, q25), (13, q23), (12, q21), (11, q19), (10, q17), (9, q15), (8, q13), (7, q11), (6, q9), (5, q7), (4, q5), (3, q3), (2, q1)] := by rw [eR67, va_up_ne _ _ (g67.ne ma0)]; exact rra0
  have ria0 : I67 a0 = il [] := by rw [eI67, va_up_ne _ _ (g67.ne ma0)]; exact ria0
  have ka0 := g67.role ma0 ka0
  have ma0 := g67.mem ma0
  have mq67 := g67.new
  have kq67 := g67.at
  have aq := aq.new g67 eI67
  have al := al.new g67 eI67
  have z0 := z0.new g67 eI67 eJ67
  have ow0 := ow0.new g67 eR67
  have al := al.con0 mq67 kq67 rfl
  have kk := kk.new g67 eI67 eR67 zz_97 zr_97 (Or.inr rfl) (by decide)
  have old := old.new g67 eI67 eJ67 eR67
  refine pf_11_50 hx hb hts hown hH hin rfl ma0 ka0 rfl kf_X11_111 dX11_init_275 (fun R68 H locs eR68 hH => ?_)
  have rra0 : R68 a0 = rl [(50, q67), (48, q65), (46, q63), (45, q61), (44, q59), (43, q57), (39, q55), (38, q53), (36, q51), (35, q49), (34, q47), (33, q45), (32, q43), (24, q41), (23, q39), (22, q37), (20, q35), (19, q33), (17, q31), (16, q29), (15, q27), (14, q25), (13, q23), (12, q21), (11, q19), (10, q17), (9, q15), (8, q13), (7, q11), (6, q9), (5, q7), (4, q5), (3, q3), (2, q1)] := by rw [eR68]; exact rl_put rra0
  have kk : KK L67 C67 I67 R68 [97, 96, 95, 94, 93, 92, 91, 90, 89, 88, 87, 86, 85, 84, 83, 82, 81, 80, 79, 78, 77, 76, 75, 74, 73, 72, 71, 70, 69, 68, 67, 66, 65, 64, 27, 0, 1, 2, 3, 4, 5, 6, 7, 8, 9, 10, 16, 17, 18, 19, 20, 21, 22, 23, 24, 25, 26, 32, 33, 34, 35, 36, 37, 38, 39, 40, 41, 42, 43, 44, 45, 46, 47, 48, 49, 50, 51, 52, 53, 54, 55, 56, 57, 58, 59, 60] := by rw [eR68]; exact kk.stR ka0 zr_27
  have old : Old L0 C0 (I0, J0, R0) a0 L67 C67 I67 J67 R68 := by rw [eR68]; exact old.stR (Or.inl rfl)
  have ow0 := ow0.stR ka0 rfl eR68
  refine lv_aload_n hx hb dX11_init_278 rfl (lv_at hl 0 rfl) ?_
  refine lv_bipush (v := 44) hx hb dX11_init_279 (by decide) ?_
  refine hNewP (k := 0) (r := 98) (N := 44) (atype := .int) (ty := .int) (a0 := (44, .inl (fun _ => 0))) hx hb hts hH rfl kac_int rfl rfl rfl (eN_I rfl rfl) (by decide) (by decide) (by decide) (by decide) (by decide) dX11_init_281 (fun q69 L69 C69 I69 J69 R69 H g69 eI69 eJ69 eR69 hH => ?_)
  have nq69 : q69 ∉ L0 := fun h => g69.2.2 (old q69 h).1
  have rra0 : R69 a0 = rl [(50, q67), (48, q65), (46, q63), (45, q61), (44, q59), (43, q57), (39, q55), (38, q53), (36, q51), (35, q49), (34, q47), (33, q45), (32, q43), (24, q41), (23, q39), (22, q37), (20, q35), (19, q33), (17, q31), (16, q29), (15, q27), (14, q25), (13, q23), (12, q21), (11, q19), (10, q17), (9, q15), (8, q13), (7, q11), (6, q9), (5, q7), (4, q5), (3, q3), (2, q1)] := by rw [eR69, va_up_ne _ _ (g69.ne ma0)]; exact rra0
  have ria0 : I69 a0 = il [] := by rw [eI69, va_up_ne _ _ (g69.ne ma0)]; exact ria0
  have ka0 := g69.role ma0 ka0
  have ma0 := g69.mem ma0
  have mq69 := g69.new
  have kq69 := g69.at
  have aq := aq.new g69 eI69
  have al := al.new g69 eI69
  have z0 := z0.new g69 eI69 eJ69
  have ow0 := ow0.new g69 eR69
  have al := al.con0 mq69 kq69 rfl
  have kk := kk.new g69 eI69 eR69 zz_98 zr_98 (Or.inr rfl) (by decide)
  have old := old.new g69 eI69 eJ69 eR69
  refine pf_11_51 hx hb hts hown hH hin rfl ma0 ka0 rfl kf_X11_114 dX11_init_283 (fun R70 H locs eR70 hH => ?_)
  have rra0 : R70 a0 = rl [(51, q69), (50, q67), (48, q65), (46, q63), (45, q61), (44, q59), (43, q57), (39, q55), (38, q53), (36, q51), (35, q49), (34, q47), (33, q45), (32, q43), (24, q41), (23, q39), (22, q37), (20, q35), (19, q33), (17, q31), (16, q29), (15, q27), (14, q25), (13, q23), (12, q21), (11, q19), (10, q17), (9, q15), (8, q13), (7, q11), (6, q9), (5, q7), (4, q5), (3, q3), (2, q1)] := by rw [eR70]; exact rl_put rra0
  have kk : KK L69 C69 I69 R70 [98, 97, 96, 95, 94, 93, 92, 91, 90, 89, 88, 87, 86, 85, 84, 83, 82, 81, 80, 79, 78, 77, 76, 75, 74, 73, 72, 71, 70, 69, 68, 67, 66, 65, 64, 27, 0, 1, 2, 3, 4, 5, 6, 7, 8, 9, 10, 16, 17, 18, 19, 20, 21, 22, 23, 24, 25, 26, 32, 33, 34, 35, 36, 37, 38, 39, 40, 41, 42, 43, 44, 45, 46, 47, 48, 49, 50, 51, 52, 53, 54, 55, 56, 57, 58, 59, 60] := by rw [eR70]; exact kk.stR ka0 zr_27
  have old : Old L0 C0 (I0, J0, R0) a0 L69 C69 I69 J69 R70 := by rw [eR70]; exact old.stR (Or.inl rfl)
  have ow0 := ow0.stR ka0 rfl eR70
  refine lv_aload_n hx hb dX11_init_286 rfl (lv_at hl 0 rfl) ?_
  refine lv_iconst (v := 4) hx hb dX11_init_287 (by decide) ?_
  refine hNewP (k := 1) (r := 99) (N := 4) (atype := .long) (ty := .long) (a0 := (4, .inr (.inl (fun _ => 0)))) hx hb hts hH rfl kac_long rfl rfl rfl (eN_J rfl rfl) (by decide) (by decide) (by decide) (by decide) (by decide) dX11_init_288 (fun q71 L71 C71 I71 J71 R71 H g71 eI71 eJ71 eR71 hH => ?_)
  have nq71 : q71 ∉ L0 := fun h => g71.2.2 (old q71 h).1
  have rra0 : R71 a0 = rl [(51, q69), (50, q67), (48, q65), (46, q63), (45, q61), (44, q59), (43, q57), (39, q55), (38, q53), (36, q51), (35, q49), (34, q47), (33, q45), (32, q43), (24, q41), (23, q39), (22, q37), (20, q35), (19, q33), (17, q31), (16, q29), (15, q27), (14, q25), (13, q23), (12, q21), (11, q19), (10, q17), (9, q15), (8, q13), (7, q11), (6, q9), (5, q7), (4, q5), (3, q3), (2, q1)] := by rw [eR71, va_up_ne _ _ (g71.ne ma0)]; exact rra0
  have ria0 : I71 a0 = il [] := by rw [eI71, va_up_ne _ _ (g71.ne ma0)]; exact ria0
  have ka0 := g71.role ma0 ka0
  have ma0 := g71.mem ma0
  have mq71 := g71.new
  have kq71 := g71.at
  have aq := aq.new g71 eI71
  have al := al.new g71 eI71
  have z0 := z0.new g71 eI71 eJ71
  have ow0 := ow0.new g71 eR71
  have al := al.con0 mq71 kq71 rfl
  have kk := kk.new g71 eI71 eR71 zz_99 zr_99 (Or.inr rfl) (by decide)
  have old := old.new g71 eI71 eJ71 eR71
  refine pf_11_52 hx hb hts hown hH hin rfl ma0 ka0 rfl kf_X11_117 dX11_init_290 (fun R72 H locs eR72 hH => ?_)
  have rra0 : R72 a0 = rl [(52, q71), (51, q69), (50, q67), (48, q65), (46, q63), (45, q61), (44, q59), (43, q57), (39, q55), (38, q53), (36, q51), (35, q49), (34, q47), (33, q45), (32, q43), (24, q41), (23, q39), (22, q37), (20, q35), (19, q33), (17, q31), (16, q29), (15, q27), (14, q25), (13, q23), (12, q21), (11, q19), (10, q17), (9, q15), (8, q13), (7, q11), (6, q9), (5, q7), (4, q5), (3, q3), (2, q1)] := by rw [eR72]; exact rl_put rra0
  have kk : KK L71 C71 I71 R72 [99, 98, 97, 96, 95, 94, 93, 92, 91, 90, 89, 88, 87, 86, 85, 84, 83, 82, 81, 80, 79, 78, 77, 76, 75, 74, 73, 72, 71, 70, 69, 68, 67, 66, 65, 64, 27, 0, 1, 2, 3, 4, 5, 6, 7, 8, 9, 10, 16, 17, 18, 19, 20, 21, 22, 23, 24, 25, 26, 32, 33, 34, 35, 36, 37, 38, 39, 40, 41, 42, 43, 44, 45, 46, 47, 48, 49, 50, 51, 52, 53, 54, 55, 56, 57, 58, 59, 60] := by rw [eR72]; exact kk.stR ka0 zr_27
  have old : Old L0 C0 (I0, J0, R0) a0 L71 C71 I71 J71 R72 := by rw [eR72]; exact old.stR (Or.inl rfl)
  have ow0 := ow0.stR ka0 rfl eR72
  refine lv_aload_n hx hb dX11_init_293 rfl (lv_at hl 0 rfl) ?_
  refine lv_iconst (v := 4) hx hb dX11_init_294 (by decide) ?_
  refine hNewP (k := 1) (r := 100) (N := 4) (atype := .long) (ty := .long) (a0 := (4, .inr (.inl (fun _ => 0)))) hx hb hts hH rfl kac_long rfl rfl rfl (eN_J rfl rfl) (by decide) (by decide) (by decide) (by decide) (by decide) dX11_init_295 (fun q73 L73 C73 I73 J73 R73 H g73 eI73 eJ73 eR73 hH => ?_)
  have nq73 : q73 ∉ L0 := fun h => g73.2.2 (old q73 h).1
  have rra0 : R73 a0 = rl [(52, q71), (51, q69), (50, q67), (48, q65), (46, q63), (45, q61), (44, q59), (43, q57), (39, q55), (38, q53), (36, q51), (35, q49), (34, q47), (33, q45), (32, q43), (24, q41), (23, q39), (22, q37), (20, q35), (19, q33), (17, q31), (16, q29), (15, q27), (14, q25), (13, q23), (12, q21), (11, q19), (10, q17), (9, q15), (8, q13), (7, q11), (6, q9), (5, q7), (4, q5), (3, q3), (2, q1)] := by rw [eR73, va_up_ne _ _ (g73.ne ma0)]; exact rra0
  have ria0 : I73 a0 = il [] := by rw [eI73, va_up_ne _ _ (g73.ne ma0)]; exact ria0
  have ka0 := g73.role ma0 ka0
  have ma0 := g73.mem ma0
  have mq73 := g73.new
  have kq73 := g73.at
  have aq := aq.new g73 eI73
  have al := al.new g73 eI73
  have z0 := z0.new g73 eI73 eJ73
  have ow0 := ow0.new g73 eR73
  have al := al.con0 mq73 kq73 rfl
  have kk := kk.new g73 eI73 eR73 zz_100 zr_100 (Or.inr rfl) (by decide)
  have old := old.new g73 eI73 eJ73 eR73
  refine pf_11_53 hx hb hts hown hH hin rfl ma0 ka0 rfl kf_X11_120 dX11_init_297 (fun R74 H locs eR74 hH => ?_)
  have rra0 : R74 a0 = rl [(53, q73), (52, q71), (51, q69), (50, q67), (48, q65), (46, q63), (45, q61), (44, q59), (43, q57), (39, q55), (38, q53), (36, q51), (35, q49), (34, q47), (33, q45), (32, q43), (24, q41), (23, q39), (22, q37), (20, q35), (19, q33), (17, q31), (16, q29), (15, q27), (14, q25), (13, q23), (12, q21), (11, q19), (10, q17), (9, q15), (8, q13), (7, q11), (6, q9), (5, q7), (4, q5), (3, q3), (2, q1)] := by rw [eR74]; exact rl_put rra0
  have kk : KK L73 C73 I73 R74 [100, 99, 98, 97, 96, 95, 94, 93, 92, 91, 90, 89, 88, 87, 86, 85, 84, 83, 82, 81, 80, 79, 78, 77, 76, 75, 74, 73, 72, 71, 70, 69, 68, 67, 66, 65, 64, 27, 0, 1, 2, 3, 4, 5, 6, 7, 8, 9, 10, 16, 17, 18, 19, 20, 21, 22, 23, 24, 25, 26, 32, 33, 34, 35, 36, 37, 38, 39, 40, 41, 42, 43, 44, 45, 46, 47, 48, 49, 50, 51, 52, 53, 54, 55, 56, 57, 58, 59, 60] := by rw [eR74]; exact kk.stR ka0 zr_27
  have old : Old L0 C0 (I0, J0, R0) a0 L73 C73 I73 J73 R74 := by rw [eR74]; exact old.stR (Or.inl rfl)
  have ow0 := ow0.stR ka0 rfl eR74
  have mq1 : q1 ∈ L73 := (aq.at (i := 5) rfl).1
  have kq1 : C73 q1 = 64 := (aq.at (i := 5) rfl).2
  have mq11 : q11 ∈ L73 := (aq.at (i := 0) rfl).1
  have kq11 : C73 q11 = 69 := (aq.at (i := 0) rfl).2
  have mq13 : q13 ∈ L73 := (al.at (i := 30) rfl).1
  have kq13 : C73 q13 = 70 := (al.at (i := 30) rfl).2
  have mq15 : q15 ∈ L73 := (al.at (i := 29) rfl).1
  have kq15 : C73 q15 = 71 := (al.at (i := 29) rfl).2
  have mq17 : q17 ∈ L73 := (al.at (i := 28) rfl).1
  have kq17 : C73 q17 = 72 := (al.at (i := 28) rfl).2
  have mq19 : q19 ∈ L73 := (al.at (i := 27) rfl).1
  have kq19 : C73 q19 = 73 := (al.at (i := 27) rfl).2
  have mq21 : q21 ∈ L73 := (al.at (i := 26) rfl).1
  have kq21 : C73 q21 = 74 := (al.at (i := 26) rfl).2
  have mq23 : q23 ∈ L73 := (al.at (i := 25) rfl).1
  have kq23 : C73 q23 = 75 := (al.at (i := 25) rfl).2
  have mq25 : q25 ∈ L73 := (al.at (i := 24) rfl).1
  have kq25 : C73 q25 = 76 := (al.at (i := 24) rfl).2
  have mq27 : q27 ∈ L73 := (al.at (i := 23) rfl).1
  have kq27 : C73 q27 = 77 := (al.at (i := 23) rfl).2
  have mq29 : q29 ∈ L73 := (al.at (i := 22) rfl).1
  have kq29 : C73 q29 = 78 := (al.at (i := 22) rfl).2
  have mq3 : q3 ∈ L73 := (aq.at (i := 4) rfl).1
  have kq3 : C73 q3 = 65 := (aq.at (i := 4) rfl).2
  have mq31 : q31 ∈ L73 := (al.at (i := 21) rfl).1
  have kq31 : C73 q31 = 79 := (al.at (i := 21) rfl).2
  have mq33 : q33 ∈ L73 := (al.at (i := 20) rfl).1
  have kq33 : C73 q33 = 80 := (al.at (i := 20) rfl).2
  have mq35 : q35 ∈ L73 := (al.at (i := 19) rfl).1
  have kq35 : C73 q35 = 81 := (al.at (i := 19) rfl).2
  have mq37 : q37 ∈ L73 := (al.at (i := 18) rfl).1
  have kq37 : C73 q37 = 82 := (al.at (i := 18) rfl).2
  have mq39 : q39 ∈ L73 := (al.at (i := 17) rfl).1
  have kq39 : C73 q39 = 83 := (al.at (i := 17) rfl).2
  have mq41 : q41 ∈ L73 := (al.at (i := 16) rfl).1
  have kq41 : C73 q41 = 84 := (al.at (i := 16) rfl).2
  have mq43 : q43 ∈ L73 := (al.at (i := 15) rfl).1
  have kq43 : C73 q43 = 85 := (al.at (i := 15) rfl).2
  have mq45 : q45 ∈ L73 := (al.at (i := 14) rfl).1
  have kq45 : C73 q45 = 86 := (al.at (i := 14) rfl).2
  have mq47 : q47 ∈ L73 := (al.at (i := 13) rfl).1
  have kq47 : C73 q47 = 87 := (al.at (i := 13) rfl).2
  have mq49 : q49 ∈ L73 := (al.at (i := 12) rfl).1
  have kq49 : C73 q49 = 88 := (al.at (i := 12) rfl).2
  have mq5 : q5 ∈ L73 := (aq.at (i := 3) rfl).1
  have kq5 : C73 q5 = 66 := (aq.at (i := 3) rfl).2
  have mq51 : q51 ∈ L73 := (al.at (i := 11) rfl).1
  have kq51 : C73 q51 = 89 := (al.at (i := 11) rfl).2
  have mq53 : q53 ∈ L73 := (al.at (i := 10) rfl).1
  have kq53 : C73 q53 = 90 := (al.at (i := 10) rfl).2
  have mq55 : q55 ∈ L73 := (al.at (i := 9) rfl).1
  have kq55 : C73 q55 = 91 := (al.at (i := 9) rfl).2
  have mq57 : q57 ∈ L73 := (al.at (i := 8) rfl).1
  have kq57 : C73 q57 = 92 := (al.at (i := 8) rfl).2
  have mq59 : q59 ∈ L73 := (al.at (i := 7) rfl).1
  have kq59 : C73 q59 = 93 := (al.at (i := 7) rfl).2
  have mq61 : q61 ∈ L73 := (al.at (i := 6) rfl).1
  have kq61 : C73 q61 = 94 := (al.at (i := 6) rfl).2
  have mq63 : q63 ∈ L73 := (al.at (i := 5) rfl).1
  have kq63 : C73 q63 = 95 := (al.at (i := 5) rfl).2
  have mq65 : q65 ∈ L73 := (al.at (i := 4) rfl).1
  have kq65 : C73 q65 = 96 := (al.at (i := 4) rfl).2
  have mq67 : q67 ∈ L73 := (al.at (i := 3) rfl).1
  have kq67 : C73 q67 = 97 := (al.at (i := 3) rfl).2
  have mq69 : q69 ∈ L73 := (al.at (i := 2) rfl).1
  have kq69 : C73 q69 = 98 := (al.at (i := 2) rfl).2
  have mq7 : q7 ∈ L73 := (aq.at (i := 2) rfl).1
  have kq7 : C73 q7 = 67 := (aq.at (i := 2) rfl).2
  have mq71 : q71 ∈ L73 := (al.at (i := 1) rfl).1
  have kq71 : C73 q71 = 99 := (al.at (i := 1) rfl).2
  have mq73 : q73 ∈ L73 := (al.at (i := 0) rfl).1
  have kq73 : C73 q73 = 100 := (al.at (i := 0) rfl).2
  have mq9 : q9 ∈ L73 := (aq.at (i := 1) rfl).1
  have kq9 : C73 q9 = 68 := (aq.at (i := 1) rfl).2
  have hI75 : ∀ j, j < rN 11 → rLo 11 j ≤ (I73 a0 j).toInt ∧ (I73 a0 j).toInt ≤ rHi 11 j ∧ (rX 11 = true → (I73 a0 j).toInt ≤ 3 ∨ (I73 a0 j).toInt = 9) := by rw [ria0]; decide +kernel
  have hR75 : ∀ j, j < rN 11 → rR 11 j ≠ 0 → ∃ b, b ∈ L73 ∧ b ≠ a0 ∧ R74 a0 j = some b ∧ C73 b + 1 = rR 11 j := by
    intro j hj hn
    rw [rra0]
    have hj : j < 56 := hj
    rcases (show j = 0 ∨ j = 1 ∨ j = 2 ∨ j = 3 ∨ j = 4 ∨ j = 5 ∨ j = 6 ∨ j = 7 ∨ j = 8 ∨ j = 9 ∨ j = 10 ∨ j = 11 ∨ j = 12 ∨ j = 13 ∨ j = 14 ∨ j = 15 ∨ j = 16 ∨ j = 17 ∨ j = 18 ∨ j = 19 ∨ j = 20 ∨ j = 21 ∨ j = 22 ∨ j = 23 ∨ j = 24 ∨ j = 25 ∨ j = 26 ∨ j = 27 ∨ j = 28 ∨ j = 29 ∨ j = 30 ∨ j = 31 ∨ j = 32 ∨ j = 33 ∨ j = 34 ∨ j = 35 ∨ j = 36 ∨ j = 37 ∨ j = 38 ∨ j = 39 ∨ j = 40 ∨ j = 41 ∨ j = 42 ∨ j = 43 ∨ j = 44 ∨ j = 45 ∨ j = 46 ∨ j = 47 ∨ j = 48 ∨ j = 49 ∨ j = 50 ∨ j = 51 ∨ j = 52 ∨ j = 53 ∨ j = 54 ∨ j = 55 by omega) with rfl | rfl | rfl | rfl | rfl | rfl | rfl | rfl | rfl | rfl | rfl | rfl | rfl | rfl | rfl | rfl | rfl | rfl | rfl | rfl | rfl | rfl | rfl | rfl | rfl | rfl | rfl | rfl | rfl | rfl | rfl | rfl | rfl | rfl | rfl | rfl | rfl | rfl | rfl | rfl | rfl | rfl | rfl | rfl | rfl | rfl | rfl | rfl | rfl | rfl | rfl | rfl | rfl | rfl | rfl | rfl
    · exact absurd rfl hn
    · exact absurd rfl hn
    · exact ⟨q1, mq1, ne_role kq1 ka0 (by decide), rfl, by rw [kq1]; rfl⟩
    · exact ⟨q3, mq3, ne_role kq3 ka0 (by decide), rfl, by rw [kq3]; rfl⟩
    · exact ⟨q5, mq5, ne_role kq5 ka0 (by decide), rfl, by rw [kq5]; rfl⟩
    · exact ⟨q7, mq7, ne_role kq7 ka0 (by decide), rfl, by rw [kq7]; rfl⟩
    · exact ⟨q9, mq9, ne_role kq9 ka0 (by decide), rfl, by rw [kq9]; rfl⟩
    · exact ⟨q11, mq11, ne_role kq11 ka0 (by decide), rfl, by rw [kq11]; rfl⟩
    · exact ⟨q13, mq13, ne_role kq13 ka0 (by decide), rfl, by rw [kq13]; rfl⟩
    · exact ⟨q15, mq15, ne_role kq15 ka0 (by decide), rfl, by rw [kq15]; rfl⟩
    · exact ⟨q17, mq17, ne_role kq17 ka0 (by decide), rfl, by rw [kq17]; rfl⟩
    · exact ⟨q19, mq19, ne_role kq19 ka0 (by decide), rfl, by rw [kq19]; rfl⟩
    · exact ⟨q21, mq21, ne_role kq21 ka0 (by decide), rfl, by rw [kq21]; rfl⟩
    · exact ⟨q23, mq23, ne_role kq23 ka0 (by decide), rfl, by rw [kq23]; rfl⟩
    · exact ⟨q25, mq25, ne_role kq25 ka0 (by decide), rfl, by rw [kq25]; rfl⟩
    · exact ⟨q27, mq27, ne_role kq27 ka0 (by decide), rfl, by rw [kq27]; rfl⟩
    · exact ⟨q29, mq29, ne_role kq29 ka0 (by decide), rfl, by rw [kq29]; rfl⟩
    · exact ⟨q31, mq31, ne_role kq31 ka0 (by decide), rfl, by rw [kq31]; rfl⟩
    · exact absurd rfl hn
    · exact ⟨q33, mq33, ne_role kq33 ka0 (by decide), rfl, by rw [kq33]; rfl⟩
    · exact ⟨q35, mq35, ne_role kq35 ka0 (by decide), rfl, by rw [kq35]; rfl⟩
    · exact absurd rfl hn
    · exact ⟨q37, mq37, ne_role kq37 ka0 (by decide), rfl, by rw [kq37]; rfl⟩
    · exact ⟨q39, mq39, ne_role kq39 ka0 (by decide), rfl, by rw [kq39]; rfl⟩
    · exact ⟨q41, mq41, ne_role kq41 ka0 (by decide), rfl, by rw [kq41]; rfl⟩
    · exact absurd rfl hn
    · exact absurd rfl hn
    · exact absurd rfl hn
    · exact absurd rfl hn
    · exact absurd rfl hn
    · exact absurd rfl hn
    · exact absurd rfl hn
    · exact ⟨q43, mq43, ne_role kq43 ka0 (by decide), rfl, by rw [kq43]; rfl⟩
    · exact ⟨q45, mq45, ne_role kq45 ka0 (by decide), rfl, by rw [kq45]; rfl⟩
    · exact ⟨q47, mq47, ne_role kq47 ka0 (by decide), rfl, by rw [kq47]; rfl⟩
    · exact ⟨q49, mq49, ne_role kq49 ka0 (by decide), rfl, by rw [kq49]; rfl⟩
    · exact ⟨q51, mq51, ne_role kq51 ka0 (by decide), rfl, by rw [kq51]; rfl⟩
    · exact absurd rfl hn
    · exact ⟨q53, mq53, ne_role kq53 ka0 (by decide), rfl, by rw [kq53]; rfl⟩
    · exact ⟨q55, mq55, ne_role kq55 ka0 (by decide), rfl, by rw [kq55]; rfl⟩
    · exact absurd rfl hn
    · exact absurd rfl hn
    · exact absurd rfl hn
    · exact ⟨q57, mq57, ne_role kq57 ka0 (by decide), rfl, by rw [kq57]; rfl⟩
    · exact ⟨q59, mq59, ne_role kq59 ka0 (by decide), rfl, by rw [kq59]; rfl⟩
    · exact ⟨q61, mq61, ne_role kq61 ka0 (by decide), rfl, by rw [kq61]; rfl⟩
    · exact ⟨q63, mq63, ne_role kq63 ka0 (by decide), rfl, by rw [kq63]; rfl⟩
    · exact absurd rfl hn
    · exact ⟨q65, mq65, ne_role kq65 ka0 (by decide), rfl, by rw [kq65]; rfl⟩
    · exact absurd rfl hn
    · exact ⟨q67, mq67, ne_role kq67 ka0 (by decide), rfl, by rw [kq67]; rfl⟩
    · exact ⟨q69, mq69, ne_role kq69 ka0 (by decide), rfl, by rw [kq69]; rfl⟩
    · exact ⟨q71, mq71, ne_role kq71 ka0 (by decide), rfl, by rw [kq71]; rfl⟩
    · exact ⟨q73, mq73, ne_role kq73 ka0 (by decide), rfl, by rw [kq73]; rfl⟩
    · exact absurd rfl hn
    · exact absurd rfl hn
  have ow0 := ow0.rel0 (q := a0) (r := 11) (fun _ => rfl)
  have hH := hH.rel (q := a0) (r := 11) (by rw [ka0]; rfl) (by rw [ka0]; rfl)
  have kk := kk.rel ma0 ka0 (Or.inl ⟨by decide, by decide⟩) hI75 hR75 (Or.inr rfl) (fun h => absurd h (by decide)) (by decide) (by decide)
  have old := old.rel (q := a0) (r := 11) (Or.inl rfl)
  have aq := aq.rel (r := 11) ka0 rfl
  have al := al.rel (r := 11) ka0 rfl
  have z0 := z0.rel (q := a0) (r := 11) (iv_il (by decide) ria0)
  obtain ⟨C75, eC75⟩ : ∃ z, z = va_up C73 a0 11 := ⟨_, rfl⟩
  rw [← eC75] at hH kk old al z0 ow0 aq
  have ka0 : C75 a0 = 11 := by rw [eC75, va_up_self]
  have pc1 : (I73 a0 1).toInt = 0 := by rw [ria0]; decide
  refine lv_aload_n hx hb dX11_init_300 rfl (lv_at hl 0 rfl) ?_
  refine lv_iconst (v := 0) hx hb dX11_init_301 (by decide) ?_
  refine lv_iconst (v := 1) hx hb dX11_init_302 (by decide) ?_
  refine lv_iconst (v := 1) hx hb dX11_init_303 (by decide) ?_
  refine ca_X11_123 hx hb hml hown hts hH (c_X11_base kk.1 kk.2.1 ma0 ka0 (Rg_c (x := 0) (by decide)) (Rg_c (x := 1) (by decide)) (Rg_c (x := 1) (by decide)) ⟨by rw [pc1]; decide, by rw [pc1]; decide⟩ kk.2.2.1) hl.1 ma0 ka0 rfl (by decide) (Nat.le_of_ble_eq_true rfl) ⟨by decide, by decide⟩ dX11_init_304 (fun I76 J76 R76 H locs hp hH => ?_)
  obtain ⟨⟨oI76, oR76, sc76⟩, eJ76, eR76, -, hx76, hf76⟩ := hp
  obtain rfl : J73 = J76 := eJ76.symm
  obtain rfl : R74 = R76 := eR76.symm
  have kk := KK.sm (u := (I73, J73, R74)) (v := (I76, J73, R74)) kk oI76 oR76 sc76 rfl rfl rfl rfl
  have old := old.sm sc76 hS0 rfl
  have al := AJ.sm (u := (I73, J73, R74)) (v := (I76, J73, R74)) al sc76 rfl
  have z0 := Z0.sm (u := (I73, J73, R74)) (v := (I76, J73, R74)) z0 sc76 rfl (by decide)
  have mq11 : q11 ∈ L73 := (aq.at (i := 0) rfl).1
  have kq11 : C75 q11 = 69 := (aq.at (i := 0) rfl).2
  have fvq11 : I73 q11 = il [] := (aq.val (i := 0) rfl).1 rfl
  have fwq11 : I76 q11 = il [(0, 1)] := by have h9 : I76 q11 = _ := hx76.2.2.2.2.2.2 q11 mq11 kq11; rw [h9, fvq11, clamp_toInt (k := 0) (pc1.trans (by decide))]; rfl
  have mq9 : q9 ∈ L73 := (aq.at (i := 1) rfl).1
  have kq9 : C75 q9 = 68 := (aq.at (i := 1) rfl).2
  have fvq9 : I73 q9 = il [] := (aq.val (i := 1) rfl).1 rfl
  have fwq9 : I76 q9 = il [(0, 0)] := by have h9 : I76 q9 = _ := hx76.2.2.2.2.2.1 q9 mq9 kq9; rw [h9, fvq9, clamp_toInt (k := 0) (pc1.trans (by decide))]; rfl
  have mq7 : q7 ∈ L73 := (aq.at (i := 2) rfl).1
  have kq7 : C75 q7 = 67 := (aq.at (i := 2) rfl).2
  have fvq7 : I73 q7 = il [] := (aq.val (i := 2) rfl).1 rfl
  have fwq7 : I76 q7 = il [(0, 1)] := by have h9 : I76 q7 = _ := hx76.2.2.2.2.1 q7 mq7 kq7; rw [h9, fvq7, clamp_toInt (k := 0) (pc1.trans (by decide))]; rfl
  have mq5 : q5 ∈ L73 := (aq.at (i := 3) rfl).1
  have kq5 : C75 q5 = 66 := (aq.at (i := 3) rfl).2
  have fvq5 : I73 q5 = il [] := (aq.val (i := 3) rfl).1 rfl
  have fwq5 : I76 q5 = il [(0, 1)] := by have h9 : I76 q5 = _ := hx76.2.2.2.1 q5 mq5 kq5; rw [h9, fvq5, clamp_toInt (k := 0) (pc1.trans (by decide))]; rfl
  have mq3 : q3 ∈ L73 := (aq.at (i := 4) rfl).1
  have kq3 : C75 q3 = 65 := (aq.at (i := 4) rfl).2
  have fvq3 : I73 q3 = il [] := (aq.val (i := 4) rfl).1 rfl
  have fwq3 : I76 q3 = il [(0, 1)] := by have h9 : I76 q3 = _ := hx76.2.2.1 q3 mq3 kq3; rw [h9, fvq3, clamp_toInt (k := 0) (pc1.trans (by decide))]; rfl
  have mq1 : q1 ∈ L73 := (aq.at (i := 5) rfl).1
  have kq1 : C75 q1 = 64 := (aq.at (i := 5) rfl).2
  have fvq1 : I73 q1 = il [] := (aq.val (i := 5) rfl).1 rfl
  have fwq1 : I76 q1 = il [(0, 0)] := by have h9 : I76 q1 = _ := hx76.2.1 q1 mq1 kq1; rw [h9, fvq1, clamp_toInt (k := 0) (pc1.trans (by decide))]; rfl
  have aq := (AJ.cons (AJ.cons (AJ.cons (AJ.cons (AJ.cons (AJ.cons AJ.nil mq1 kq1 rfl (Fc.row fwq1)) mq3 kq3 rfl (Fc.row fwq3)) mq5 kq5 rfl (Fc.row fwq5)) mq7 kq7 rfl (Fc.row fwq7)) mq9 kq9 rfl (Fc.row fwq9)) mq11 kq11 rfl (Fc.row fwq11))
  have pc1 : (I76 a0 1).toInt = 1 := hx76.1.1.trans (by rw [pc1]; decide)
  refine lv_aload_n hx hb dX11_init_307 rfl (lv_at hl 0 rfl) ?_
  refine lv_iconst (v := 1) hx hb dX11_init_308 (by decide) ?_
  refine lv_iconst (v := 2) hx hb dX11_init_309 (by decide) ?_
  refine lv_iconst (v := 1) hx hb dX11_init_310 (by decide) ?_
  refine ca_X11_123 hx hb hml hown hts hH (c_X11_base kk.1 kk.2.1 ma0 ka0 (Rg_c (x := 1) (by decide)) (Rg_c (x := 2) (by decide)) (Rg_c (x := 1) (by decide)) ⟨by rw [pc1]; decide, by rw [pc1]; decide⟩ kk.2.2.1) hl.1 ma0 ka0 rfl (by decide) (Nat.le_of_ble_eq_true rfl) ⟨by decide, by decide⟩ dX11_init_311 (fun I77 J77 R77 H locs hp hH => ?_)
  obtain ⟨⟨oI77, oR77, sc77⟩, eJ77, eR77, -, hx77, hf77⟩ := hp
  obtain rfl : J73 = J77 := eJ77.symm
  obtain rfl : R74 = R77 := eR77.symm
  have kk := KK.sm (u := (I76, J73, R74)) (v := (I77, J73, R74)) kk oI77 oR77 sc77 rfl rfl rfl rfl
  have old := old.sm sc77 hS0 rfl
  have al := AJ.sm (u := (I76, J73, R74)) (v := (I77, J73, R74)) al sc77 rfl
  have z0 := Z0.sm (u := (I76, J73, R74)) (v := (I77, J73, R74)) z0 sc77 rfl (by decide)
  have mq11 : q11 ∈ L73 := (aq.at (i := 0) rfl).1
  have kq11 : C75 q11 = 69 := (aq.at (i := 0) rfl).2
  have fvq11 : I76 q11 = il [(0, 1)] := (aq.val (i := 0) rfl).1 rfl
  have fwq11 : I77 q11 = il [(1, 1), (0, 1)] := by have h9 : I77 q11 = _ := hx77.2.2.2.2.2.2 q11 mq11 kq11; rw [h9, fvq11, clamp_toInt (k := 1) (pc1.trans (by decide))]; rfl
  have mq9 : q9 ∈ L73 := (aq.at (i := 1) rfl).1
  have kq9 : C75 q9 = 68 := (aq.at (i := 1) rfl).2
  have fvq9 : I76 q9 = il [(0, 0)] := (aq.val (i := 1) rfl).1 rfl
  have fwq9 : I77 q9 = il [(1, 0), (0, 0)] := by have h9 : I77 q9 = _ := hx77.2.2.2.2.2.1 q9 mq9 kq9; rw [h9, fvq9, clamp_toInt (k := 1) (pc1.trans (by decide))]; rfl
  have mq7 : q7 ∈ L73 := (aq.at (i := 2) rfl).1
  have kq7 : C75 q7 = 67 := (aq.at (i := 2) rfl).2
  have fvq7 : I76 q7 = il [(0, 1)] := (aq.val (i := 2) rfl).1 rfl
  have fwq7 : I77 q7 = il [(1, 1), (0, 1)] := by have h9 : I77 q7 = _ := hx77.2.2.2.2.1 q7 mq7 kq7; rw [h9, fvq7, clamp_toInt (k := 1) (pc1.trans (by decide))]; rfl
  have mq5 : q5 ∈ L73 := (aq.at (i := 3) rfl).1
  have kq5 : C75 q5 = 66 := (aq.at (i := 3) rfl).2
  have fvq5 : I76 q5 = il [(0, 1)] := (aq.val (i := 3) rfl).1 rfl
  have fwq5 : I77 q5 = il [(1, 1), (0, 1)] := by have h9 : I77 q5 = _ := hx77.2.2.2.1 q5 mq5 kq5; rw [h9, fvq5, clamp_toInt (k := 1) (pc1.trans (by decide))]; rfl
  have mq3 : q3 ∈ L73 := (aq.at (i := 4) rfl).1
  have kq3 : C75 q3 = 65 := (aq.at (i := 4) rfl).2
  have fvq3 : I76 q3 = il [(0, 1)] := (aq.val (i := 4) rfl).1 rfl
  have fwq3 : I77 q3 = il [(1, 2), (0, 1)] := by have h9 : I77 q3 = _ := hx77.2.2.1 q3 mq3 kq3; rw [h9, fvq3, clamp_toInt (k := 1) (pc1.trans (by decide))]; rfl
  have mq1 : q1 ∈ L73 := (aq.at (i := 5) rfl).1
  have kq1 : C75 q1 = 64 := (aq.at (i := 5) rfl).2
  have fvq1 : I76 q1 = il [(0, 0)] := (aq.val (i := 5) rfl).1 rfl
  have fwq1 : I77 q1 = il [(1, 1), (0, 0)] := by have h9 : I77 q1 = _ := hx77.2.1 q1 mq1 kq1; rw [h9, fvq1, clamp_toInt (k := 1) (pc1.trans (by decide))]; rfl
  have aq := (AJ.cons (AJ.cons (AJ.cons (AJ.cons (AJ.cons (AJ.cons AJ.nil mq1 kq1 rfl (Fc.row fwq1)) mq3 kq3 rfl (Fc.row fwq3)) mq5 kq5 rfl (Fc.row fwq5)) mq7 kq7 rfl (Fc.row fwq7)) mq9 kq9 rfl (Fc.row fwq9)) mq11 kq11 rfl (Fc.row fwq11))
  have pc1 : (I77 a0 1).toInt = 2 := hx77.1.1.trans (by rw [pc1]; decide)
  refine lv_aload_n hx hb dX11_init_314 rfl (lv_at hl 0 rfl) ?_
  refine lv_iconst (v := 2) hx hb dX11_init_315 (by decide) ?_
  refine lv_iconst (v := 3) hx hb dX11_init_316 (by decide) ?_
  refine lv_iconst (v := 1) hx hb dX11_init_317 (by decide) ?_
  refine ca_X11_123 hx hb hml hown hts hH (c_X11_base kk.1 kk.2.1 ma0 ka0 (Rg_c (x := 2) (by decide)) (Rg_c (x := 3) (by decide)) (Rg_c (x := 1) (by decide)) ⟨by rw [pc1]; decide, by rw [pc1]; decide⟩ kk.2.2.1) hl.1 ma0 ka0 rfl (by decide) (Nat.le_of_ble_eq_true rfl) ⟨by decide, by decide⟩ dX11_init_318 (fun I78 J78 R78 H locs hp hH => ?_)
  obtain ⟨⟨oI78, oR78, sc78⟩, eJ78, eR78, -, hx78, hf78⟩ := hp
  obtain rfl : J73 = J78 := eJ78.symm
  obtain rfl : R74 = R78 := eR78.symm
  have kk := KK.sm (u := (I77, J73, R74)) (v := (I78, J73, R74)) kk oI78 oR78 sc78 rfl rfl rfl rfl
  have old := old.sm sc78 hS0 rfl
  have al := AJ.sm (u := (I77, J73, R74)) (v := (I78, J73, R74)) al sc78 rfl
  have z0 := Z0.sm (u := (I77, J73, R74)) (v := (I78, J73, R74)) z0 sc78 rfl (by decide)
  have mq11 : q11 ∈ L73 := (aq.at (i := 0) rfl).1
  have kq11 : C75 q11 = 69 := (aq.at (i := 0) rfl).2
  have fvq11 : I77 q11 = il [(1, 1), (0, 1)] := (aq.val (i := 0) rfl).1 rfl
  have fwq11 : I78 q11 = il [(2, 1), (1, 1), (0, 1)] := by have h9 : I78 q11 = _ := hx78.2.2.2.2.2.2 q11 mq11 kq11; rw [h9, fvq11, clamp_toInt (k := 2) (pc1.trans (by decide))]; rfl
  have mq9 : q9 ∈ L73 := (aq.at (i := 1) rfl).1
  have kq9 : C75 q9 = 68 := (aq.at (i := 1) rfl).2
  have fvq9 : I77 q9 = il [(1, 0), (0, 0)] := (aq.val (i := 1) rfl).1 rfl
  have fwq9 : I78 q9 = il [(2, 0), (1, 0), (0, 0)] := by have h9 : I78 q9 = _ := hx78.2.2.2.2.2.1 q9 mq9 kq9; rw [h9, fvq9, clamp_toInt (k := 2) (pc1.trans (by decide))]; rfl
  have mq7 : q7 ∈ L73 := (aq.at (i := 2) rfl).1
  have kq7 : C75 q7 = 67 := (aq.at (i := 2) rfl).2
  have fvq7 : I77 q7 = il [(1, 1), (0, 1)] := (aq.val (i := 2) rfl).1 rfl
  have fwq7 : I78 q7 = il [(2, 1), (1, 1), (0, 1)] := by have h9 : I78 q7 = _ := hx78.2.2.2.2.1 q7 mq7 kq7; rw [h9, fvq7, clamp_toInt (k := 2) (pc1.trans (by decide))]; rfl
  have mq5 : q5 ∈ L73 := (aq.at (i := 3) rfl).1
  have kq5 : C75 q5 = 66 := (aq.at (i := 3) rfl).2
  have fvq5 : I77 q5 = il [(1, 1), (0, 1)] := (aq.val (i := 3) rfl).1 rfl
  have fwq5 : I78 q5 = il [(2, 1), (1, 1), (0, 1)] := by have h9 : I78 q5 = _ := hx78.2.2.2.1 q5 mq5 kq5; rw [h9, fvq5, clamp_toInt (k := 2) (pc1.trans (by decide))]; rfl
  have mq3 : q3 ∈ L73 := (aq.at (i := 4) rfl).1
  have kq3 : C75 q3 = 65 := (aq.at (i := 4) rfl).2
  have fvq3 : I77 q3 = il [(1, 2), (0, 1)] := (aq.val (i := 4) rfl).1 rfl
  have fwq3 : I78 q3 = il [(2, 3), (1, 2), (0, 1)] := by have h9 : I78 q3 = _ := hx78.2.2.1 q3 mq3 kq3; rw [h9, fvq3, clamp_toInt (k := 2) (pc1.trans (by decide))]; rfl
  have mq1 : q1 ∈ L73 := (aq.at (i := 5) rfl).1
  have kq1 : C75 q1 = 64 := (aq.at (i := 5) rfl).2
  have fvq1 : I77 q1 = il [(1, 1), (0, 0)] := (aq.val (i := 5) rfl).1 rfl
  have fwq1 : I78 q1 = il [(2, 2), (1, 1), (0, 0)] := by have h9 : I78 q1 = _ := hx78.2.1 q1 mq1 kq1; rw [h9, fvq1, clamp_toInt (k := 2) (pc1.trans (by decide))]; rfl
  have aq := (AJ.cons (AJ.cons (AJ.cons (AJ.cons (AJ.cons (AJ.cons AJ.nil mq1 kq1 rfl (Fc.row fwq1)) mq3 kq3 rfl (Fc.row fwq3)) mq5 kq5 rfl (Fc.row fwq5)) mq7 kq7 rfl (Fc.row fwq7)) mq9 kq9 rfl (Fc.row fwq9)) mq11 kq11 rfl (Fc.row fwq11))
  have pc1 : (I78 a0 1).toInt = 3 := hx78.1.1.trans (by rw [pc1]; decide)
  refine lv_aload_n hx hb dX11_init_321 rfl (lv_at hl 0 rfl) ?_
  refine lv_iconst (v := 3) hx hb dX11_init_322 (by decide) ?_
  refine lv_iconst (v := 2) hx hb dX11_init_323 (by decide) ?_
  refine lv_iconst (v := 5) hx hb dX11_init_324 (by decide) ?_
  refine ca_X11_123 hx hb hml hown hts hH (c_X11_base kk.1 kk.2.1 ma0 ka0 (Rg_c (x := 3) (by decide)) (Rg_c (x := 2) (by decide)) (Rg_c (x := 5) (by decide)) ⟨by rw [pc1]; decide, by rw [pc1]; decide⟩ kk.2.2.1) hl.1 ma0 ka0 rfl (by decide) (Nat.le_of_ble_eq_true rfl) ⟨by decide, by decide⟩ dX11_init_325 (fun I79 J79 R79 H locs hp hH => ?_)
  obtain ⟨⟨oI79, oR79, sc79⟩, eJ79, eR79, -, hx79, hf79⟩ := hp
  obtain rfl : J73 = J79 := eJ79.symm
  obtain rfl : R74 = R79 := eR79.symm
  have kk := KK.sm (u := (I78, J73, R74)) (v := (I79, J73, R74)) kk oI79 oR79 sc79 rfl rfl rfl rfl
  have old := old.sm sc79 hS0 rfl
  have al := AJ.sm (u := (I78, J73, R74)) (v := (I79, J73, R74)) al sc79 rfl
  have z0 := Z0.sm (u := (I78, J73, R74)) (v := (I79, J73, R74)) z0 sc79 rfl (by decide)
  have mq11 : q11 ∈ L73 := (aq.at (i := 0) rfl).1
  have kq11 : C75 q11 = 69 := (aq.at (i := 0) rfl).2
  have fvq11 : I78 q11 = il [(2, 1), (1, 1), (0, 1)] := (aq.val (i := 0) rfl).1 rfl
  have fwq11 : I79 q11 = il [(3, 1), (2, 1), (1, 1), (0, 1)] := by have h9 : I79 q11 = _ := hx79.2.2.2.2.2.2 q11 mq11 kq11; rw [h9, fvq11, clamp_toInt (k := 3) (pc1.trans (by decide))]; rfl
  have mq9 : q9 ∈ L73 := (aq.at (i := 1) rfl).1
  have kq9 : C75 q9 = 68 := (aq.at (i := 1) rfl).2
  have fvq9 : I78 q9 = il [(2, 0), (1, 0), (0, 0)] := (aq.val (i := 1) rfl).1 rfl
  have fwq9 : I79 q9 = il [(3, 0), (2, 0), (1, 0), (0, 0)] := by have h9 : I79 q9 = _ := hx79.2.2.2.2.2.1 q9 mq9 kq9; rw [h9, fvq9, clamp_toInt (k := 3) (pc1.trans (by decide))]; rfl
  have mq7 : q7 ∈ L73 := (aq.at (i := 2) rfl).1
  have kq7 : C75 q7 = 67 := (aq.at (i := 2) rfl).2
  have fvq7 : I78 q7 = il [(2, 1), (1, 1), (0, 1)] := (aq.val (i := 2) rfl).1 rfl
  have fwq7 : I79 q7 = il [(3, 1), (2, 1), (1, 1), (0, 1)] := by have h9 : I79 q7 = _ := hx79.2.2.2.2.1 q7 mq7 kq7; rw [h9, fvq7, clamp_toInt (k := 3) (pc1.trans (by decide))]; rfl
  have mq5 : q5 ∈ L73 := (aq.at (i := 3) rfl).1
  have kq5 : C75 q5 = 66 := (aq.at (i := 3) rfl).2
  have fvq5 : I78 q5 = il [(2, 1), (1, 1), (0, 1)] := (aq.val (i := 3) rfl).1 rfl
  have fwq5 : I79 q5 = il [(3, 5), (2, 1), (1, 1), (0, 1)] := by have h9 : I79 q5 = _ := hx79.2.2.2.1 q5 mq5 kq5; rw [h9, fvq5, clamp_toInt (k := 3) (pc1.trans (by decide))]; rfl
  have mq3 : q3 ∈ L73 := (aq.at (i := 4) rfl).1
  have kq3 : C75 q3 = 65 := (aq.at (i := 4) rfl).2
  have fvq3 : I78 q3 = il [(2, 3), (1, 2), (0, 1)] := (aq.val (i := 4) rfl).1 rfl
  have fwq3 : I79 q3 = il [(3, 2), (2, 3), (1, 2), (0, 1)] := by have h9 : I79 q3 = _ := hx79.2.2.1 q3 mq3 kq3; rw [h9, fvq3, clamp_toInt (k := 3) (pc1.trans (by decide))]; rfl
  have mq1 : q1 ∈ L73 := (aq.at (i := 5) rfl).1
  have kq1 : C75 q1 = 64 := (aq.at (i := 5) rfl).2
  have fvq1 : I78 q1 = il [(2, 2), (1, 1), (0, 0)] := (aq.val (i := 5) rfl).1 rfl
  have fwq1 : I79 q1 = il [(3, 3), (2, 2), (1, 1), (0, 0)] := by have h9 : I79 q1 = _ := hx79.2.1 q1 mq1 kq1; rw [h9, fvq1, clamp_toInt (k := 3) (pc1.trans (by decide))]; rfl
  have aq := (AJ.cons (AJ.cons (AJ.cons (AJ.cons (AJ.cons (AJ.cons AJ.nil mq1 kq1 rfl (Fc.row fwq1)) mq3 kq3 rfl (Fc.row fwq3)) mq5 kq5 rfl (Fc.row fwq5)) mq7 kq7 rfl (Fc.row fwq7)) mq9 kq9 rfl (Fc.row fwq9)) mq11 kq11 rfl (Fc.row fwq11))
  have pc1 : (I79 a0 1).toInt = 4 := hx79.1.1.trans (by rw [pc1]; decide)
  refine lv_aload_n hx hb dX11_init_328 rfl (lv_at hl 0 rfl) ?_
  refine lv_iconst (v := 2) hx hb dX11_init_329 (by decide) ?_
  refine lv_iconst (v := 1) hx hb dX11_init_330 (by decide) ?_
  refine lv_iconst (v := 5) hx hb dX11_init_331 (by decide) ?_
  refine ca_X11_123 hx hb hml hown hts hH (c_X11_base kk.1 kk.2.1 ma0 ka0 (Rg_c (x := 2) (by decide)) (Rg_c (x := 1) (by decide)) (Rg_c (x := 5) (by decide)) ⟨by rw [pc1]; decide, by rw [pc1]; decide⟩ kk.2.2.1) hl.1 ma0 ka0 rfl (by decide) (Nat.le_of_ble_eq_true rfl) ⟨by decide, by decide⟩ dX11_init_332 (fun I80 J80 R80 H locs hp hH => ?_)
  obtain ⟨⟨oI80, oR80, sc80⟩, eJ80, eR80, -, hx80, hf80⟩ := hp
  obtain rfl : J73 = J80 := eJ80.symm
  obtain rfl : R74 = R80 := eR80.symm
  have kk := KK.sm (u := (I79, J73, R74)) (v := (I80, J73, R74)) kk oI80 oR80 sc80 rfl rfl rfl rfl
  have old := old.sm sc80 hS0 rfl
  have al := AJ.sm (u := (I79, J73, R74)) (v := (I80, J73, R74)) al sc80 rfl
  have z0 := Z0.sm (u := (I79, J73, R74)) (v := (I80, J73, R74)) z0 sc80 rfl (by decide)
  have mq11 : q11 ∈ L73 := (aq.at (i := 0) rfl).1
  have kq11 : C75 q11 = 69 := (aq.at (i := 0) rfl).2
  have fvq11 : I79 q11 = il [(3, 1), (2, 1), (1, 1), (0, 1)] := (aq.val (i := 0) rfl).1 rfl
  have fwq11 : I80 q11 = il [(4, 1), (3, 1), (2, 1), (1, 1), (0, 1)] := by have h9 : I80 q11 = _ := hx80.2.2.2.2.2.2 q11 mq11 kq11; rw [h9, fvq11, clamp_toInt (k := 4) (pc1.trans (by decide))]; rfl
  have mq9 : q9 ∈ L73 := (aq.at (i := 1) rfl).1
  have kq9 : C75 q9 = 68 := (aq.at (i := 1) rfl).2
  have fvq9 : I79 q9 = il [(3, 0), (2, 0), (1, 0), (0, 0)] := (aq.val (i := 1) rfl).1 rfl
  have fwq9 : I80 q9 = il [(4, 0), (3, 0), (2, 0), (1, 0), (0, 0)] := by have h9 : I80 q9 = _ := hx80.2.2.2.2.2.1 q9 mq9 kq9; rw [h9, fvq9, clamp_toInt (k := 4) (pc1.trans (by decide))]; rfl
  have mq7 : q7 ∈ L73 := (aq.at (i := 2) rfl).1
  have kq7 : C75 q7 = 67 := (aq.at (i := 2) rfl).2
  have fvq7 : I79 q7 = il [(3, 1), (2, 1), (1, 1), (0, 1)] := (aq.val (i := 2) rfl).1 rfl
  have fwq7 : I80 q7 = il [(4, 1), (3, 1), (2, 1), (1, 1), (0, 1)] := by have h9 : I80 q7 = _ := hx80.2.2.2.2.1 q7 mq7 kq7; rw [h9, fvq7, clamp_toInt (k := 4) (pc1.trans (by decide))]; rfl
  have mq5 : q5 ∈ L73 := (aq.at (i := 3) rfl).1
  have kq5 : C75 q5 = 66 := (aq.at (i := 3) rfl).2
  have fvq5 : I79 q5 = il [(3, 5), (2, 1), (1, 1), (0, 1)] := (aq.val (i := 3) rfl).1 rfl
  have fwq5 : I80 q5 = il [(4, 5), (3, 5), (2, 1), (1, 1), (0, 1)] := by have h9 : I80 q5 = _ := hx80.2.2.2.1 q5 mq5 kq5; rw [h9, fvq5, clamp_toInt (k := 4) (pc1.trans (by decide))]; rfl
  have mq3 : q3 ∈ L73 := (aq.at (i := 4) rfl).1
  have kq3 : C75 q3 = 65 := (aq.at (i := 4) rfl).2
  have fvq3 : I79 q3 = il [(3, 2), (2, 3), (1, 2), (0, 1)] := (aq.val (i := 4) rfl).1 rfl
  have fwq3 : I80 q3 = il [(4, 1), (3, 2), (2, 3), (1, 2), (0, 1)] := by have h9 : I80 q3 = _ := hx80.2.2.1 q3 mq3 kq3; rw [h9, fvq3, clamp_toInt (k := 4) (pc1.trans (by decide))]; rfl
  have mq1 : q1 ∈ L73 := (aq.at (i := 5) rfl).1
  have kq1 : C75 q1 = 64 := (aq.at (i := 5) rfl).2
  have fvq1 : I79 q1 = il [(3, 3), (2, 2), (1, 1), (0, 0)] := (aq.val (i := 5) rfl).1 rfl
  have fwq1 : I80 q1 = il [(4, 2), (3, 3), (2, 2), (1, 1), (0, 0)] := by have h9 : I80 q1 = _ := hx80.2.1 q1 mq1 kq1; rw [h9, fvq1, clamp_toInt (k := 4) (pc1.trans (by decide))]; rfl
  have aq := (AJ.cons (AJ.cons (AJ.cons (AJ.cons (AJ.cons (AJ.cons AJ.nil mq1 kq1 rfl (Fc.row fwq1)) mq3 kq3 rfl (Fc.row fwq3)) mq5 kq5 rfl (Fc.row fwq5)) mq7 kq7 rfl (Fc.row fwq7)) mq9 kq9 rfl (Fc.row fwq9)) mq11 kq11 rfl (Fc.row fwq11))
  have pc1 : (I80 a0 1).toInt = 5 := hx80.1.1.trans (by rw [pc1]; decide)
  refine lv_aload_n hx hb dX11_init_335 rfl (lv_at hl 0 rfl) ?_
  refine lv_iconst (v := 1) hx hb dX11_init_336 (by decide) ?_
  refine lv_iconst (v := 0) hx hb dX11_init_337 (by decide) ?_
  refine lv_iconst (v := 5) hx hb dX11_init_338 (by decide) ?_
  refine ca_X11_123 hx hb hml hown hts hH (c_X11_base kk.1 kk.2.1 ma0 ka0 (Rg_c (x := 1) (by decide)) (Rg_c (x := 0) (by decide)) (Rg_c (x := 5) (by decide)) ⟨by rw [pc1]; decide, by rw [pc1]; decide⟩ kk.2.2.1) hl.1 ma0 ka0 rfl (by decide) (Nat.le_of_ble_eq_true rfl) ⟨by decide, by decide⟩ dX11_init_339 (fun I81 J81 R81 H locs hp hH => ?_)
  obtain ⟨⟨oI81, oR81, sc81⟩, eJ81, eR81, -, hx81, hf81⟩ := hp
  obtain rfl : J73 = J81 := eJ81.symm
  obtain rfl : R74 = R81 := eR81.symm
  have kk := KK.sm (u := (I80, J73, R74)) (v := (I81, J73, R74)) kk oI81 oR81 sc81 rfl rfl rfl rfl
  have old := old.sm sc81 hS0 rfl
  have al := AJ.sm (u := (I80, J73, R74)) (v := (I81, J73, R74)) al sc81 rfl
  have z0 := Z0.sm (u := (I80, J73, R74)) (v := (I81, J73, R74)) z0 sc81 rfl (by decide)
  have mq11 : q11 ∈ L73 := (aq.at (i := 0) rfl).1
  have kq11 : C75 q11 = 69 := (aq.at (i := 0) rfl).2
  have fvq11 : I80 q11 = il [(4, 1), (3, 1), (2, 1), (1, 1), (0, 1)] := (aq.val (i := 0) rfl).1 rfl
  have fwq11 : I81 q11 = il [(5, 1), (4, 1), (3, 1), (2, 1), (1, 1), (0, 1)] := by have h9 : I81 q11 = _ := hx81.2.2.2.2.2.2 q11 mq11 kq11; rw [h9, fvq11, clamp_toInt (k := 5) (pc1.trans (by decide))]; rfl
  have mq9 : q9 ∈ L73 := (aq.at (i := 1) rfl).1
  have kq9 : C75 q9 = 68 := (aq.at (i := 1) rfl).2
  have fvq9 : I80 q9 = il [(4, 0), (3, 0), (2, 0), (1, 0), (0, 0)] := (aq.val (i := 1) rfl).1 rfl
  have fwq9 : I81 q9 = il [(5, 0), (4, 0), (3, 0), (2, 0), (1, 0), (0, 0)] := by have h9 : I81 q9 = _ := hx81.2.2.2.2.2.1 q9 mq9 kq9; rw [h9, fvq9, clamp_toInt (k := 5) (pc1.trans (by decide))]; rfl
  have mq7 : q7 ∈ L73 := (aq.at (i := 2) rfl).1
  have kq7 : C75 q7 = 67 := (aq.at (i := 2) rfl).2
  have fvq7 : I80 q7 = il [(4, 1), (3, 1), (2, 1), (1, 1), (0, 1)] := (aq.val (i := 2) rfl).1 rfl
  have fwq7 : I81 q7 = il [(5, 1), (4, 1), (3, 1), (2, 1), (1, 1), (0, 1)] := by have h9 : I81 q7 = _ := hx81.2.2.2.2.1 q7 mq7 kq7; rw [h9, fvq7, clamp_toInt (k := 5) (pc1.trans (by decide))]; rfl
  have mq5 : q5 ∈ L73 := (aq.at (i := 3) rfl).1
  have kq5 : C75 q5 = 66 := (aq.at (i := 3) rfl).2
  have fvq5 : I80 q5 = il [(4, 5), (3, 5), (2, 1), (1, 1), (0, 1)] := (aq.val (i := 3) rfl).1 rfl
  have fwq5 : I81 q5 = il [(5, 5), (4, 5), (3, 5), (2, 1), (1, 1), (0, 1)] := by have h9 : I81 q5 = _ := hx81.2.2.2.1 q5 mq5 kq5; rw [h9, fvq5, clamp_toInt (k := 5) (pc1.trans (by decide))]; rfl
  have mq3 : q3 ∈ L73 := (aq.at (i := 4) rfl).1
  have kq3 : C75 q3 = 65 := (aq.at (i := 4) rfl).2
  have fvq3 : I80 q3 = il [(4, 1), (3, 2), (2, 3), (1, 2), (0, 1)] := (aq.val (i := 4) rfl).1 rfl
  have fwq3 : I81 q3 = il [(5, 0), (4, 1), (3, 2), (2, 3), (1, 2), (0, 1)] := by have h9 : I81 q3 = _ := hx81.2.2.1 q3 mq3 kq3; rw [h9, fvq3, clamp_toInt (k := 5) (pc1.trans (by decide))]; rfl
  have mq1 : q1 ∈ L73 := (aq.at (i := 5) rfl).1
  have kq1 : C75 q1 = 64 := (aq.at (i := 5) rfl).2
  have fvq1 : I80 q1 = il [(4, 2), (3, 3), (2, 2), (1, 1), (0, 0)] := (aq.val (i := 5) rfl).1 rfl
  have fwq1 : I81 q1 = il [(5, 1), (4, 2), (3, 3), (2, 2), (1, 1), (0, 0)] := by have h9 : I81 q1 = _ := hx81.2.1 q1 mq1 kq1; rw [h9, fvq1, clamp_toInt (k := 5) (pc1.trans (by decide))]; rfl
  have aq := (AJ.cons (AJ.cons (AJ.cons (AJ.cons (AJ.cons (AJ.cons AJ.nil mq1 kq1 rfl (Fc.row fwq1)) mq3 kq3 rfl (Fc.row fwq3)) mq5 kq5 rfl (Fc.row fwq5)) mq7 kq7 rfl (Fc.row fwq7)) mq9 kq9 rfl (Fc.row fwq9)) mq11 kq11 rfl (Fc.row fwq11))
  have pc1 : (I81 a0 1).toInt = 6 := hx81.1.1.trans (by rw [pc1]; decide)
  refine lv_aload_n hx hb dX11_init_342 rfl (lv_at hl 0 rfl) ?_
  refine lv_iconst (v := 4) hx hb dX11_init_343 (by decide) ?_
  refine lv_iconst (v := 0) hx hb dX11_init_344 (by decide) ?_
  refine lv_iconst (v := 2) hx hb dX11_init_345 (by decide) ?_
  refine ca_X11_123 hx hb hml hown hts hH (c_X11_base kk.1 kk.2.1 ma0 ka0 (Rg_c (x := 4) (by decide)) (Rg_c (x := 0) (by decide)) (Rg_c (x := 2) (by decide)) ⟨by rw [pc1]; decide, by rw [pc1]; decide⟩ kk.2.2.1) hl.1 ma0 ka0 rfl (by decide) (Nat.le_of_ble_eq_true rfl) ⟨by decide, by decide⟩ dX11_init_346 (fun I82 J82 R82 H locs hp hH => ?_)
  obtain ⟨⟨oI82, oR82, sc82⟩, eJ82, eR82, -, hx82, hf82⟩ := hp
  obtain rfl : J73 = J82 := eJ82.symm
  obtain rfl : R74 = R82 := eR82.symm
  have kk := KK.sm (u := (I81, J73, R74)) (v := (I82, J73, R74)) kk oI82 oR82 sc82 rfl rfl rfl rfl
  have old := old.sm sc82 hS0 rfl
  have al := AJ.sm (u := (I81, J73, R74)) (v := (I82, J73, R74)) al sc82 rfl
  have z0 := Z0.sm (u := (I81, J73, R74)) (v := (I82, J73, R74)) z0 sc82 rfl (by decide)
  have mq11 : q11 ∈ L73 := (aq.at (i := 0) rfl).1
  have kq11 : C75 q11 = 69 := (aq.at (i := 0) rfl).2
  have fvq11 : I81 q11 = il [(5, 1), (4, 1), (3, 1), (2, 1), (1, 1), (0, 1)] := (aq.val (i := 0) rfl).1 rfl
  have fwq11 : I82 q11 = il [(6, 1), (5, 1), (4, 1), (3, 1), (2, 1), (1, 1), (0, 1)] := by have h9 : I82 q11 = _ := hx82.2.2.2.2.2.2 q11 mq11 kq11; rw [h9, fvq11, clamp_toInt (k := 6) (pc1.trans (by decide))]; rfl
  have mq9 : q9 ∈ L73 := (aq.at (i := 1) rfl).1
  have kq9 : C75 q9 = 68 := (aq.at (i := 1) rfl).2
  have fvq9 : I81 q9 = il [(5, 0), (4, 0), (3, 0), (2, 0), (1, 0), (0, 0)] := (aq.val (i := 1) rfl).1 rfl
  have fwq9 : I82 q9 = il [(6, 0), (5, 0), (4, 0), (3, 0), (2, 0), (1, 0), (0, 0)] := by have h9 : I82 q9 = _ := hx82.2.2.2.2.2.1 q9 mq9 kq9; rw [h9, fvq9, clamp_toInt (k := 6) (pc1.trans (by decide))]; rfl
  have mq7 : q7 ∈ L73 := (aq.at (i := 2) rfl).1
  have kq7 : C75 q7 = 67 := (aq.at (i := 2) rfl).2
  have fvq7 : I81 q7 = il [(5, 1), (4, 1), (3, 1), (2, 1), (1, 1), (0, 1)] := (aq.val (i := 2) rfl).1 rfl
  have fwq7 : I82 q7 = il [(6, 1), (5, 1), (4, 1), (3, 1), (2, 1), (1, 1), (0, 1)] := by have h9 : I82 q7 = _ := hx82.2.2.2.2.1 q7 mq7 kq7; rw [h9, fvq7, clamp_toInt (k := 6) (pc1.trans (by decide))]; rfl
  have mq5 : q5 ∈ L73 := (aq.at (i := 3) rfl).1
  have kq5 : C75 q5 = 66 := (aq.at (i := 3) rfl).2
  have fvq5 : I81 q5 = il [(5, 5), (4, 5), (3, 5), (2, 1), (1, 1), (0, 1)] := (aq.val (i := 3) rfl).1 rfl
  have fwq5 : I82 q5 = il [(6, 2), (5, 5), (4, 5), (3, 5), (2, 1), (1, 1), (0, 1)] := by have h9 : I82 q5 = _ := hx82.2.2.2.1 q5 mq5 kq5; rw [h9, fvq5, clamp_toInt (k := 6) (pc1.trans (by decide))]; rfl
  have mq3 : q3 ∈ L73 := (aq.at (i := 4) rfl).1
  have kq3 : C75 q3 = 65 := (aq.at (i := 4) rfl).2
  have fvq3 : I81 q3 = il [(5, 0), (4, 1), (3, 2), (2, 3), (1, 2), (0, 1)] := (aq.val (i := 4) rfl).1 rfl
  have fwq3 : I82 q3 = il [(6, 0), (5, 0), (4, 1), (3, 2), (2, 3), (1, 2), (0, 1)] := by have h9 : I82 q3 = _ := hx82.2.2.1 q3 mq3 kq3; rw [h9, fvq3, clamp_toInt (k := 6) (pc1.trans (by decide))]; rfl
  have mq1 : q1 ∈ L73 := (aq.at (i := 5) rfl).1
  have kq1 : C75 q1 = 64 := (aq.at (i := 5) rfl).2
  have fvq1 : I81 q1 = il [(5, 1), (4, 2), (3, 3), (2, 2), (1, 1), (0, 0)] := (aq.val (i := 5) rfl).1 rfl
  have fwq1 : I82 q1 = il [(6, 4), (5, 1), (4, 2), (3, 3), (2, 2), (1, 1), (0, 0)] := by have h9 : I82 q1 = _ := hx82.2.1 q1 mq1 kq1; rw [h9, fvq1, clamp_toInt (k := 6) (pc1.trans (by decide))]; rfl
  have aq := (AJ.cons (AJ.cons (AJ.cons (AJ.cons (AJ.cons (AJ.cons AJ.nil mq1 kq1 rfl (Fc.row fwq1)) mq3 kq3 rfl (Fc.row fwq3)) mq5 kq5 rfl (Fc.row fwq5)) mq7 kq7 rfl (Fc.row fwq7)) mq9 kq9 rfl (Fc.row fwq9)) mq11 kq11 rfl (Fc.row fwq11))
  have pc1 : (I82 a0 1).toInt = 7 := hx82.1.1.trans (by rw [pc1]; decide)
  refine lv_aload_n hx hb dX11_init_349 rfl (lv_at hl 0 rfl) ?_
  refine lv_iconst (v := 2) hx hb dX11_init_350 (by decide) ?_
  refine lv_iconst (v := 4) hx hb dX11_init_351 (by decide) ?_
  refine lv_bipush (v := 6) hx hb dX11_init_352 (by decide) ?_
  refine ca_X11_123 hx hb hml hown hts hH (c_X11_base kk.1 kk.2.1 ma0 ka0 (Rg_c (x := 2) (by decide)) (Rg_c (x := 4) (by decide)) (Rg_c (x := 6) (by decide)) ⟨by rw [pc1]; decide, by rw [pc1]; decide⟩ kk.2.2.1) hl.1 ma0 ka0 rfl (by decide) (Nat.le_of_ble_eq_true rfl) ⟨by decide, by decide⟩ dX11_init_354 (fun I83 J83 R83 H locs hp hH => ?_)
  obtain ⟨⟨oI83, oR83, sc83⟩, eJ83, eR83, -, hx83, hf83⟩ := hp
  obtain rfl : J73 = J83 := eJ83.symm
  obtain rfl : R74 = R83 := eR83.symm
  have kk := KK.sm (u := (I82, J73, R74)) (v := (I83, J73, R74)) kk oI83 oR83 sc83 rfl rfl rfl rfl
  have old := old.sm sc83 hS0 rfl
  have al := AJ.sm (u := (I82, J73, R74)) (v := (I83, J73, R74)) al sc83 rfl
  have z0 := Z0.sm (u := (I82, J73, R74)) (v := (I83, J73, R74)) z0 sc83 rfl (by decide)
  have mq11 : q11 ∈ L73 := (aq.at (i := 0) rfl).1
  have kq11 : C75 q11 = 69 := (aq.at (i := 0) rfl).2
  have fvq11 : I82 q11 = il [(6, 1), (5, 1), (4, 1), (3, 1), (2, 1), (1, 1), (0, 1)] := (aq.val (i := 0) rfl).1 rfl
  have fwq11 : I83 q11 = il [(7, 1), (6, 1), (5, 1), (4, 1), (3, 1), (2, 1), (1, 1), (0, 1)] := by have h9 : I83 q11 = _ := hx83.2.2.2.2.2.2 q11 mq11 kq11; rw [h9, fvq11, clamp_toInt (k := 7) (pc1.trans (by decide))]; rfl
  have mq9 : q9 ∈ L73 := (aq.at (i := 1) rfl).1
  have kq9 : C75 q9 = 68 := (aq.at (i := 1) rfl).2
  have fvq9 : I82 q9 = il [(6, 0), (5, 0), (4, 0), (3, 0), (2, 0), (1, 0), (0, 0)] := (aq.val (i := 1) rfl).1 rfl
  have fwq9 : I83 q9 = il [(7, 0), (6, 0), (5, 0), (4, 0), (3, 0), (2, 0), (1, 0), (0, 0)] := by have h9 : I83 q9 = _ := hx83.2.2.2.2.2.1 q9 mq9 kq9; rw [h9, fvq9, clamp_toInt (k := 7) (pc1.trans (by decide))]; rfl
  have mq7 : q7 ∈ L73 := (aq.at (i := 2) rfl).1
  have kq7 : C75 q7 = 67 := (aq.at (i := 2) rfl).2
  have fvq7 : I82 q7 = il [(6, 1), (5, 1), (4, 1), (3, 1), (2, 1), (1, 1), (0, 1)] := (aq.val (i := 2) rfl).1 rfl
  have fwq7 : I83 q7 = il [(7, 1), (6, 1), (5, 1), (4, 1), (3, 1), (2, 1), (1, 1), (0, 1)] := by have h9 : I83 q7 = _ := hx83.2.2.2.2.1 q7 mq7 kq7; rw [h9, fvq7, clamp_toInt (k := 7) (pc1.trans (by decide))]; rfl
  have mq5 : q5 ∈ L73 := (aq.at (i := 3) rfl).1
  have kq5 : C75 q5 = 66 := (aq.at (i := 3) rfl).2
  have fvq5 : I82 q5 = il [(6, 2), (5, 5), (4, 5), (3, 5), (2, 1), (1, 1), (0, 1)] := (aq.val (i := 3) rfl).1 rfl
  have fwq5 : I83 q5 = il [(7, 6), (6, 2), (5, 5), (4, 5), (3, 5), (2, 1), (1, 1), (0, 1)] := by have h9 : I83 q5 = _ := hx83.2.2.2.1 q5 mq5 kq5; rw [h9, fvq5, clamp_toInt (k := 7) (pc1.trans (by decide))]; rfl
  have mq3 : q3 ∈ L73 := (aq.at (i := 4) rfl).1
  have kq3 : C75 q3 = 65 := (aq.at (i := 4) rfl).2
  have fvq3 : I82 q3 = il [(6, 0), (5, 0), (4, 1), (3, 2), (2, 3), (1, 2), (0, 1)] := (aq.val (i := 4) rfl).1 rfl
  have fwq3 : I83 q3 = il [(7, 4), (6, 0), (5, 0), (4, 1), (3, 2), (2, 3), (1, 2), (0, 1)] := by have h9 : I83 q3 = _ := hx83.2.2.1 q3 mq3 kq3; rw [h9, fvq3, clamp_toInt (k := 7) (pc1.trans (by decide))]; rfl
  have mq1 : q1 ∈ L73 := (aq.at (i := 5) rfl).1
  have kq1 : C75 q1 = 64 := (aq.at (i := 5) rfl).2
  have fvq1 : I82 q1 = il [(6, 4), (5, 1), (4, 2), (3, 3), (2, 2), (1, 1), (0, 0)] := (aq.val (i := 5) rfl).1 rfl
  have fwq1 : I83 q1 = il [(7, 2), (6, 4), (5, 1), (4, 2), (3, 3), (2, 2), (1, 1), (0, 0)] := by have h9 : I83 q1 = _ := hx83.2.1 q1 mq1 kq1; rw [h9, fvq1, clamp_toInt (k := 7) (pc1.trans (by decide))]; rfl
  have aq := (AJ.cons (AJ.cons (AJ.cons (AJ.cons (AJ.cons (AJ.cons AJ.nil mq1 kq1 rfl (Fc.row fwq1)) mq3 kq3 rfl (Fc.row fwq3)) mq5 kq5 rfl (Fc.row fwq5)) mq7 kq7 rfl (Fc.row fwq7)) mq9 kq9 rfl (Fc.row fwq9)) mq11 kq11 rfl (Fc.row fwq11))
  have pc1 : (I83 a0 1).toInt = 8 := hx83.1.1.trans (by rw [pc1]; decide)
  refine lv_aload_n hx hb dX11_init_357 rfl (lv_at hl 0 rfl) ?_
  refine lv_iconst (v := 3) hx hb dX11_init_358 (by decide) ?_
  refine lv_iconst (v := 5) hx hb dX11_init_359 (by decide) ?_
  refine lv_iconst (v := 3) hx hb dX11_init_360 (by decide) ?_
  refine ca_X11_123 hx hb hml hown hts hH (c_X11_base kk.1 kk.2.1 ma0 ka0 (Rg_c (x := 3) (by decide)) (Rg_c (x := 5) (by decide)) (Rg_c (x := 3) (by decide)) ⟨by rw [pc1]; decide, by rw [pc1]; decide⟩ kk.2.2.1) hl.1 ma0 ka0 rfl (by decide) (Nat.le_of_ble_eq_true rfl) ⟨by decide, by decide⟩ dX11_init_361 (fun I84 J84 R84 H locs hp hH => ?_)
  obtain ⟨⟨oI84, oR84, sc84⟩, eJ84, eR84, -, hx84, hf84⟩ := hp
  obtain rfl : J73 = J84 := eJ84.symm
  obtain rfl : R74 = R84 := eR84.symm
  have kk := KK.sm (u := (I83, J73, R74)) (v := (I84, J73, R74)) kk oI84 oR84 sc84 rfl rfl rfl rfl
  have old := old.sm sc84 hS0 rfl
  have al := AJ.sm (u := (I83, J73, R74)) (v := (I84, J73, R74)) al sc84 rfl
  have z0 := Z0.sm (u := (I83, J73, R74)) (v := (I84, J73, R74)) z0 sc84 rfl (by decide)
  have mq11 : q11 ∈ L73 := (aq.at (i := 0) rfl).1
  have kq11 : C75 q11 = 69 := (aq.at (i := 0) rfl).2
  have fvq11 : I83 q11 = il [(7, 1), (6, 1), (5, 1), (4, 1), (3, 1), (2, 1), (1, 1), (0, 1)] := (aq.val (i := 0) rfl).1 rfl
  have fwq11 : I84 q11 = il [(8, 1), (7, 1), (6, 1), (5, 1), (4, 1), (3, 1), (2, 1), (1, 1), (0, 1)] := by have h9 : I84 q11 = _ := hx84.2.2.2.2.2.2 q11 mq11 kq11; rw [h9, fvq11, clamp_toInt (k := 8) (pc1.trans (by decide))]; rfl
  have mq9 : q9 ∈ L73 := (aq.at (i := 1) rfl).1
  have kq9 : C75 q9 = 68 := (aq.at (i := 1) rfl).2
  have fvq9 : I83 q9 = il [(7, 0), (6, 0), (5, 0), (4, 0), (3, 0), (2, 0), (1, 0), (0, 0)] := (aq.val (i := 1) rfl).1 rfl
  have fwq9 : I84 q9 = il [(8, 0), (7, 0), (6, 0), (5, 0), (4, 0), (3, 0), (2, 0), (1, 0), (0, 0)] := by have h9 : I84 q9 = _ := hx84.2.2.2.2.2.1 q9 mq9 kq9; rw [h9, fvq9, clamp_toInt (k := 8) (pc1.trans (by decide))]; rfl
  have mq7 : q7 ∈ L73 := (aq.at (i := 2) rfl).1
  have kq7 : C75 q7 = 67 := (aq.at (i := 2) rfl).2
  have fvq7 : I83 q7 = il [(7, 1), (6, 1), (5, 1), (4, 1), (3, 1), (2, 1), (1, 1), (0, 1)] := (aq.val (i := 2) rfl).1 rfl
  have fwq7 : I84 q7 = il [(8, 1), (7, 1), (6, 1), (5, 1), (4, 1), (3, 1), (2, 1), (1, 1), (0, 1)] := by have h9 : I84 q7 = _ := hx84.2.2.2.2.1 q7 mq7 kq7; rw [h9, fvq7, clamp_toInt (k := 8) (pc1.trans (by decide))]; rfl
  have mq5 : q5 ∈ L73 := (aq.at (i := 3) rfl).1
  have kq5 : C75 q5 = 66 := (aq.at (i := 3) rfl).2
  have fvq5 : I83 q5 = il [(7, 6), (6, 2), (5, 5), (4, 5), (3, 5), (2, 1), (1, 1), (0, 1)] := (aq.val (i := 3) rfl).1 rfl
  have fwq5 : I84 q5 = il [(8, 3), (7, 6), (6, 2), (5, 5), (4, 5), (3, 5), (2, 1), (1, 1), (0, 1)] := by have h9 : I84 q5 = _ := hx84.2.2.2.1 q5 mq5 kq5; rw [h9, fvq5, clamp_toInt (k := 8) (pc1.trans (by decide))]; rfl
  have mq3 : q3 ∈ L73 := (aq.at (i := 4) rfl).1
  have kq3 : C75 q3 = 65 := (aq.at (i := 4) rfl).2
  have fvq3 : I83 q3 = il [(7, 4), (6, 0), (5, 0), (4, 1), (3, 2), (2, 3), (1, 2), (0, 1)] := (aq.val (i := 4) rfl).1 rfl
  have fwq3 : I84 q3 = il [(8, 5), (7, 4), (6, 0), (5, 0), (4, 1), (3, 2), (2, 3), (1, 2), (0, 1)] := by have h9 : I84 q3 = _ := hx84.2.2.1 q3 mq3 kq3; rw [h9, fvq3, clamp_toInt (k := 8) (pc1.trans (by decide))]; rfl
  have mq1 : q1 ∈ L73 := (aq.at (i := 5) rfl).1
  have kq1 : C75 q1 = 64 := (aq.at (i := 5) rfl).2
  have fvq1 : I83 q1 = il [(7, 2), (6, 4), (5, 1), (4, 2), (3, 3), (2, 2), (1, 1), (0, 0)] := (aq.val (i := 5) rfl).1 rfl
  have fwq1 : I84 q1 = il [(8, 3), (7, 2), (6, 4), (5, 1), (4, 2), (3, 3), (2, 2), (1, 1), (0, 0)] := by have h9 : I84 q1 = _ := hx84.2.1 q1 mq1 kq1; rw [h9, fvq1, clamp_toInt (k := 8) (pc1.trans (by decide))]; rfl
  have aq := (AJ.cons (AJ.cons (AJ.cons (AJ.cons (AJ.cons (AJ.cons AJ.nil mq1 kq1 rfl (Fc.row fwq1)) mq3 kq3 rfl (Fc.row fwq3)) mq5 kq5 rfl (Fc.row fwq5)) mq7 kq7 rfl (Fc.row fwq7)) mq9 kq9 rfl (Fc.row fwq9)) mq11 kq11 rfl (Fc.row fwq11))
  have pc1 : (I84 a0 1).toInt = 9 := hx84.1.1.trans (by rw [pc1]; decide)
  refine lv_aload_n hx hb dX11_init_364 rfl (lv_at hl 0 rfl) ?_
  refine lv_iconst (v := 5) hx hb dX11_init_365 (by decide) ?_
  refine lv_iconst (v := 3) hx hb dX11_init_366 (by decide) ?_
  refine lv_bipush (v := 6) hx hb dX11_init_367 (by decide) ?_
  refine ca_X11_123 hx hb hml hown hts hH (c_X11_base kk.1 kk.2.1 ma0 ka0 (Rg_c (x := 5) (by decide)) (Rg_c (x := 3) (by decide)) (Rg_c (x := 6) (by decide)) ⟨by rw [pc1]; decide, by rw [pc1]; decide⟩ kk.2.2.1) hl.1 ma0 ka0 rfl (by decide) (Nat.le_of_ble_eq_true rfl) ⟨by decide, by decide⟩ dX11_init_369 (fun I85 J85 R85 H locs hp hH => ?_)
  obtain ⟨⟨oI85, oR85, sc85⟩, eJ85, eR85, -, hx85, hf85⟩ := hp
  obtain rfl : J73 = J85 := eJ85.symm
  obtain rfl : R74 = R85 := eR85.symm
  have kk := KK.sm (u := (I84, J73, R74)) (v := (I85, J73, R74)) kk oI85 oR85 sc85 rfl rfl rfl rfl
  have old := old.sm sc85 hS0 rfl
  have al := AJ.sm (u := (I84, J73, R74)) (v := (I85, J73, R74)) al sc85 rfl
  have z0 := Z0.sm (u := (I84, J73, R74)) (v := (I85, J73, R74)) z0 sc85 rfl (by decide)
  have mq11 : q11 ∈ L73 := (aq.at (i := 0) rfl).1
  have kq11 : C75 q11 = 69 := (aq.at (i := 0) rfl).2
  have fvq11 : I84 q11 = il [(8, 1), (7, 1), (6, 1), (5, 1), (4, 1), (3, 1), (2, 1), (1, 1), (0, 1)] := (aq.val (i := 0) rfl).1 rfl
  have fwq11 : I85 q11 = il [(9, 1), (8, 1), (7, 1), (6, 1), (5, 1), (4, 1), (3, 1), (2, 1), (1, 1), (0, 1)] := by have h9 : I85 q11 = _ := hx85.2.2.2.2.2.2 q11 mq11 kq11; rw [h9, fvq11, clamp_toInt (k := 9) (pc1.trans (by decide))]; rfl
  have mq9 : q9 ∈ L73 := (aq.at (i := 1) rfl).1
  have kq9 : C75 q9 = 68 := (aq.at (i := 1) rfl).2
  have fvq9 : I84 q9 = il [(8, 0), (7, 0), (6, 0), (5, 0), (4, 0), (3, 0), (2, 0), (1, 0), (0, 0)] := (aq.val (i := 1) rfl).1 rfl
  have fwq9 : I85 q9 = il [(9, 0), (8, 0), (7, 0), (6, 0), (5, 0), (4, 0), (3, 0), (2, 0), (1, 0), (0, 0)] := by have h9 : I85 q9 = _ := hx85.2.2.2.2.2.1 q9 mq9 kq9; rw [h9, fvq9, clamp_toInt (k := 9) (pc1.trans (by decide))]; rfl
  have mq7 : q7 ∈ L73 := (aq.at (i := 2) rfl).1
  have kq7 : C75 q7 = 67 := (aq.at (i := 2) rfl).2
  have fvq7 : I84 q7 = il [(8, 1), (7, 1), (6, 1), (5, 1), (4, 1), (3, 1), (2, 1), (1, 1), (0, 1)] := (aq.val (i := 2) rfl).1 rfl
  have fwq7 : I85 q7 = il [(9, 1), (8, 1), (7, 1), (6, 1), (5, 1), (4, 1), (3, 1), (2, 1), (1, 1), (0, 1)] := by have h9 : I85 q7 = _ := hx85.2.2.2.2.1 q7 mq7 kq7; rw [h9, fvq7, clamp_toInt (k := 9) (pc1.trans (by decide))]; rfl
  have mq5 : q5 ∈ L73 := (aq.at (i := 3) rfl).1
  have kq5 : C75 q5 = 66 := (aq.at (i := 3) rfl).2
  have fvq5 : I84 q5 = il [(8, 3), (7, 6), (6, 2), (5, 5), (4, 5), (3, 5), (2, 1), (1, 1), (0, 1)] := (aq.val (i := 3) rfl).1 rfl
  have fwq5 : I85 q5 = il [(9, 6), (8, 3), (7, 6), (6, 2), (5, 5), (4, 5), (3, 5), (2, 1), (1, 1), (0, 1)] := by have h9 : I85 q5 = _ := hx85.2.2.2.1 q5 mq5 kq5; rw [h9, fvq5, clamp_toInt (k := 9) (pc1.trans (by decide))]; rfl
  have mq3 : q3 ∈ L73 := (aq.at (i := 4) rfl).1
  have kq3 : C75 q3 = 65 := (aq.at (i := 4) rfl).2
  have fvq3 : I84 q3 = il [(8, 5), (7, 4), (6, 0), (5, 0), (4, 1), (3, 2), (2, 3), (1, 2), (0, 1)] := (aq.val (i := 4) rfl).1 rfl
  have fwq3 : I85 q3 = il [(9, 3), (8, 5), (7, 4), (6, 0), (5, 0), (4, 1), (3, 2), (2, 3), (1, 2), (0, 1)] := by have h9 : I85 q3 = _ := hx85.2.2.1 q3 mq3 kq3; rw [h9, fvq3, clamp_toInt (k := 9) (pc1.trans (by decide))]; rfl
  have mq1 : q1 ∈ L73 := (aq.at (i := 5) rfl).1
  have kq1 : C75 q1 = 64 := (aq.at (i := 5) rfl).2
  have fvq1 : I84 q1 = il [(8, 3), (7, 2), (6, 4), (5, 1), (4, 2), (3, 3), (2, 2), (1, 1), (0, 0)] := (aq.val (i := 5) rfl).1 rfl
  have fwq1 : I85 q1 = il [(9, 5), (8, 3), (7, 2), (6, 4), (5, 1), (4, 2), (3, 3), (2, 2), (1, 1), (0, 0)] := by have h9 : I85 q1 = _ := hx85.2.1 q1 mq1 kq1; rw [h9, fvq1, clamp_toInt (k := 9) (pc1.trans (by decide))]; rfl
  have aq := (AJ.cons (AJ.cons (AJ.cons (AJ.cons (AJ.cons (AJ.cons AJ.nil mq1 kq1 rfl (Fc.row fwq1)) mq3 kq3 rfl (Fc.row fwq3)) mq5 kq5 rfl (Fc.row fwq5)) mq7 kq7 rfl (Fc.row fwq7)) mq9 kq9 rfl (Fc.row fwq9)) mq11 kq11 rfl (Fc.row fwq11))
  have pc1 : (I85 a0 1).toInt = 10 := hx85.1.1.trans (by rw [pc1]; decide)
  refine lv_aload_n hx hb dX11_init_372 rfl (lv_at hl 0 rfl) ?_
  refine lv_bipush (v := 6) hx hb dX11_init_373 (by decide) ?_
  refine lv_iconst (v := 1) hx hb dX11_init_375 (by decide) ?_
  refine lv_iconst (v := 2) hx hb dX11_init_376 (by decide) ?_
  refine ca_X11_123 hx hb hml hown hts hH (c_X11_base kk.1 kk.2.1 ma0 ka0 (Rg_c (x := 6) (by decide)) (Rg_c (x := 1) (by decide)) (Rg_c (x := 2) (by decide)) ⟨by rw [pc1]; decide, by rw [pc1]; decide⟩ kk.2.2.1) hl.1 ma0 ka0 rfl (by decide) (Nat.le_of_ble_eq_true rfl) ⟨by decide, by decide⟩ dX11_init_377 (fun I86 J86 R86 H locs hp hH => ?_)
  obtain ⟨⟨oI86, oR86, sc86⟩, eJ86, eR86, -, hx86, hf86⟩ := hp
  obtain rfl : J73 = J86 := eJ86.symm
  obtain rfl : R74 = R86 := eR86.symm
  have kk := KK.sm (u := (I85, J73, R74)) (v := (I86, J73, R74)) kk oI86 oR86 sc86 rfl rfl rfl rfl
  have old := old.sm sc86 hS0 rfl
  have al := AJ.sm (u := (I85, J73, R74)) (v := (I86, J73, R74)) al sc86 rfl
  have z0 := Z0.sm (u := (I85, J73, R74)) (v := (I86, J73, R74)) z0 sc86 rfl (by decide)
  have mq11 : q11 ∈ L73 := (aq.at (i := 0) rfl).1
  have kq11 : C75 q11 = 69 := (aq.at (i := 0) rfl).2
  have fvq11 : I85 q11 = il [(9, 1), (8, 1), (7, 1), (6, 1), (5, 1), (4, 1), (3, 1), (2, 1), (1, 1), (0, 1)] := (aq.val (i := 0) rfl).1 rfl
  have fwq11 : I86 q11 = il [(10, 1), (9, 1), (8, 1), (7, 1), (6, 1), (5, 1), (4, 1), (3, 1), (2, 1), (1, 1), (0, 1)] := by have h9 : I86 q11 = _ := hx86.2.2.2.2.2.2 q11 mq11 kq11; rw [h9, fvq11, clamp_toInt (k := 10) (pc1.trans (by decide))]; rfl
  have mq9 : q9 ∈ L73 := (aq.at (i := 1) rfl).1
  have kq9 : C75 q9 = 68 := (aq.at (i := 1) rfl).2
  have fvq9 : I85 q9 = il [(9, 0), (8, 0), (7, 0), (6, 0), (5, 0), (4, 0), (3, 0), (2, 0), (1, 0), (0, 0)] := (aq.val (i := 1) rfl).1 rfl
  have fwq9 : I86 q9 = il [(10, 0), (9, 0), (8, 0), (7, 0), (6, 0), (5, 0), (4, 0), (3, 0), (2, 0), (1, 0), (0, 0)] := by have h9 : I86 q9 = _ := hx86.2.2.2.2.2.1 q9 mq9 kq9; rw [h9, fvq9, clamp_toInt (k := 10) (pc1.trans (by decide))]; rfl
  have mq7 : q7 ∈ L73 := (aq.at (i := 2) rfl).1
  have kq7 : C75 q7 = 67 := (aq.at (i := 2) rfl).2
  have fvq7 : I85 q7 = il [(9, 1), (8, 1), (7, 1), (6, 1), (5, 1), (4, 1), (3, 1), (2, 1), (1, 1), (0, 1)] := (aq.val (i := 2) rfl).1 rfl
  have fwq7 : I86 q7 = il [(10, 1), (9, 1), (8, 1), (7, 1), (6, 1), (5, 1), (4, 1), (3, 1), (2, 1), (1, 1), (0, 1)] := by have h9 : I86 q7 = _ := hx86.2.2.2.2.1 q7 mq7 kq7; rw [h9, fvq7, clamp_toInt (k := 10) (pc1.trans (by decide))]; rfl
  have mq5 : q5 ∈ L73 := (aq.at (i := 3) rfl).1
  have kq5 : C75 q5 = 66 := (aq.at (i := 3) rfl).2
  have fvq5 : I85 q5 = il [(9, 6), (8, 3), (7, 6), (6, 2), (5, 5), (4, 5), (3, 5), (2, 1), (1, 1), (0, 1)] := (aq.val (i := 3) rfl).1 rfl
  have fwq5 : I86 q5 = il [(10, 2), (9, 6), (8, 3), (7, 6), (6, 2), (5, 5), (4, 5), (3, 5), (2, 1), (1, 1), (0, 1)] := by have h9 : I86 q5 = _ := hx86.2.2.2.1 q5 mq5 kq5; rw [h9, fvq5, clamp_toInt (k := 10) (pc1.trans (by decide))]; rfl
  have mq3 : q3 ∈ L73 := (aq.at (i := 4) rfl).1
  have kq3 : C75 q3 = 65 := (aq.at (i := 4) rfl).2
  have fvq3 : I85 q3 = il [(9, 3), (8, 5), (7, 4), (6, 0), (5, 0), (4, 1), (3, 2), (2, 3), (1, 2), (0, 1)] := (aq.val (i := 4) rfl).1 rfl
  have fwq3 : I86 q3 = il [(10, 1), (9, 3), (8, 5), (7, 4), (6, 0), (5, 0), (4, 1), (3, 2), (2, 3), (1, 2), (0, 1)] := by have h9 : I86 q3 = _ := hx86.2.2.1 q3 mq3 kq3; rw [h9, fvq3, clamp_toInt (k := 10) (pc1.trans (by decide))]; rfl
  have mq1 : q1 ∈ L73 := (aq.at (i := 5) rfl).1
  have kq1 : C75 q1 = 64 := (aq.at (i := 5) rfl).2
  have fvq1 : I85 q1 = il [(9, 5), (8, 3), (7, 2), (6, 4), (5, 1), (4, 2), (3, 3), (2, 2), (1, 1), (0, 0)] := (aq.val (i := 5) rfl).1 rfl
  have fwq1 : I86 q1 = il [(10, 6), (9, 5), (8, 3), (7, 2), (6, 4), (5, 1), (4, 2), (3, 3), (2, 2), (1, 1), (0, 0)] := by have h9 : I86 q1 = _ := hx86.2.1 q1 mq1 kq1; rw [h9, fvq1, clamp_toInt (k := 10) (pc1.trans (by decide))]; rfl
  have aq := (AJ.cons (AJ.cons (AJ.cons (AJ.cons (AJ.cons (AJ.cons AJ.nil mq1 kq1 rfl (Fc.row fwq1)) mq3 kq3 rfl (Fc.row fwq3)) mq5 kq5 rfl (Fc.row fwq5)) mq7 kq7 rfl (Fc.row fwq7)) mq9 kq9 rfl (Fc.row fwq9)) mq11 kq11 rfl (Fc.row fwq11))
  have pc1 : (I86 a0 1).toInt = 11 := hx86.1.1.trans (by rw [pc1]; decide)
  refine lv_aload_n hx hb dX11_init_380 rfl (lv_at hl 0 rfl) ?_
  refine lv_iconst (v := 1) hx hb dX11_init_381 (by decide) ?_
  refine lv_bipush (v := 6) hx hb dX11_init_382 (by decide) ?_
  refine lv_iconst (v := 5) hx hb dX11_init_384 (by decide) ?_
  refine ca_X11_123 hx hb hml hown hts hH (c_X11_base kk.1 kk.2.1 ma0 ka0 (Rg_c (x := 1) (by decide)) (Rg_c (x := 6) (by decide)) (Rg_c (x := 5) (by decide)) ⟨by rw [pc1]; decide, by rw [pc1]; decide⟩ kk.2.2.1) hl.1 ma0 ka0 rfl (by decide) (Nat.le_of_ble_eq_true rfl) ⟨by decide, by decide⟩ dX11_init_385 (fun I87 J87 R87 H locs hp hH => ?_)
  obtain ⟨⟨oI87, oR87, sc87⟩, eJ87, eR87, -, hx87, hf87⟩ := hp
  obtain rfl : J73 = J87 := eJ87.symm
  obtain rfl : R74 = R87 := eR87.symm
  have kk := KK.sm (u := (I86, J73, R74)) (v := (I87, J73, R74)) kk oI87 oR87 sc87 rfl rfl rfl rfl
  have old := old.sm sc87 hS0 rfl
  have al := AJ.sm (u := (I86, J73, R74)) (v := (I87, J73, R74)) al sc87 rfl
  have z0 := Z0.sm (u := (I86, J73, R74)) (v := (I87, J73, R74)) z0 sc87 rfl (by decide)
  have mq11 : q11 ∈ L73 := (aq.at (i := 0) rfl).1
  have kq11 : C75 q11 = 69 := (aq.at (i := 0) rfl).2
  have fvq11 : I86 q11 = il [(10, 1), (9, 1), (8, 1), (7, 1), (6, 1), (5, 1), (4, 1), (3, 1), (2, 1), (1, 1), (0, 1)] := (aq.val (i := 0) rfl).1 rfl
  have fwq11 : I87 q11 = il [(11, 1), (10, 1), (9, 1), (8, 1), (7, 1), (6, 1), (5, 1), (4, 1), (3, 1), (2, 1), (1, 1), (0, 1)] := by have h9 : I87 q11 = _ := hx87.2.2.2.2.2.2 q11 mq11 kq11; rw [h9, fvq11, clamp_toInt (k := 11) (pc1.trans (by decide))]; rfl
  have mq9 : q9 ∈ L73 := (aq.at (i := 1) rfl).1
  have kq9 : C75 q9 = 68 := (aq.at (i := 1) rfl).2
  have fvq9 : I86 q9 = il [(10, 0), (9, 0), (8, 0), (7, 0), (6, 0), (5, 0), (4, 0), (3, 0), (2, 0), (1, 0), (0, 0)] := (aq.val (i := 1) rfl).1 rfl
  have fwq9 : I87 q9 = il [(11, 0), (10, 0), (9, 0), (8, 0), (7, 0), (6, 0), (5, 0), (4, 0), (3, 0), (2, 0), (1, 0), (0, 0)] := by have h9 : I87 q9 = _ := hx87.2.2.2.2.2.1 q9 mq9 kq9; rw [h9, fvq9, clamp_toInt (k := 11) (pc1.trans (by decide))]; rfl
  have mq7 : q7 ∈ L73 := (aq.at (i := 2) rfl).1
  have kq7 : C75 q7 = 67 := (aq.at (i := 2) rfl).2
  have fvq7 : I86 q7 = il [(10, 1), (9, 1), (8, 1), (7, 1), (6, 1), (5, 1), (4, 1), (3, 1), (2, 1), (1, 1), (0, 1)] := (aq.val (i := 2) rfl).1 rfl
  have fwq7 : I87 q7 = il [(11, 1), (10, 1), (9, 1), (8, 1), (7, 1), (6, 1), (5, 1), (4, 1), (3, 1), (2, 1), (1, 1), (0, 1)] := by have h9 : I87 q7 = _ := hx87.2.2.2.2.1 q7 mq7 kq7; rw [h9, fvq7, clamp_toInt (k := 11) (pc1.trans (by decide))]; rfl
  have mq5 : q5 ∈ L73 := (aq.at (i := 3) rfl).1
  have kq5 : C75 q5 = 66 := (aq.at (i := 3) rfl).2
  have fvq5 : I86 q5 = il [(10, 2), (9, 6), (8, 3), (7, 6), (6, 2), (5, 5), (4, 5), (3, 5), (2, 1), (1, 1), (0, 1)] := (aq.val (i := 3) rfl).1 rfl
  have fwq5 : I87 q5 = il [(11, 5), (10, 2), (9, 6), (8, 3), (7, 6), (6, 2), (5, 5), (4, 5), (3, 5), (2, 1), (1, 1), (0, 1)] := by have h9 : I87 q5 = _ := hx87.2.2.2.1 q5 mq5 kq5; rw [h9, fvq5, clamp_toInt (k := 11) (pc1.trans (by decide))]; rfl
  have mq3 : q3 ∈ L73 := (aq.at (i := 4) rfl).1
  have kq3 : C75 q3 = 65 := (aq.at (i := 4) rfl).2
  have fvq3 : I86 q3 = il [(10, 1), (9, 3), (8, 5), (7, 4), (6, 0), (5, 0), (4, 1), (3, 2), (2, 3), (1, 2), (0, 1)] := (aq.val (i := 4) rfl).1 rfl
  have fwq3 : I87 q3 = il [(11, 6), (10, 1), (9, 3), (8, 5), (7, 4), (6, 0), (5, 0), (4, 1), (3, 2), (2, 3), (1, 2), (0, 1)] := by have h9 : I87 q3 = _ := hx87.2.2.1 q3 mq3 kq3; rw [h9, fvq3, clamp_toInt (k := 11) (pc1.trans (by decide))]; rfl
  have mq1 : q1 ∈ L73 := (aq.at (i := 5) rfl).1
  have kq1 : C75 q1 = 64 := (aq.at (i := 5) rfl).2
  have fvq1 : I86 q1 = il [(10, 6), (9, 5), (8, 3), (7, 2), (6, 4), (5, 1), (4, 2), (3, 3), (2, 2), (1, 1), (0, 0)] := (aq.val (i := 5) rfl).1 rfl
  have fwq1 : I87 q1 = il [(11, 1), (10, 6), (9, 5), (8, 3), (7, 2), (6, 4), (5, 1), (4, 2), (3, 3), (2, 2), (1, 1), (0, 0)] := by have h9 : I87 q1 = _ := hx87.2.1 q1 mq1 kq1; rw [h9, fvq1, clamp_toInt (k := 11) (pc1.trans (by decide))]; rfl
  have aq := (AJ.cons (AJ.cons (AJ.cons (AJ.cons (AJ.cons (AJ.cons AJ.nil mq1 kq1 rfl (Fc.row fwq1)) mq3 kq3 rfl (Fc.row fwq3)) mq5 kq5 rfl (Fc.row fwq5)) mq7 kq7 rfl (Fc.row fwq7)) mq9 kq9 rfl (Fc.row fwq9)) mq11 kq11 rfl (Fc.row fwq11))
  have pc1 : (I87 a0 1).toInt = 12 := hx87.1.1.trans (by rw [pc1]; decide)
  refine W.widen (k := 37) (n := 14010) (by decide) (by decide) ?_
  exact ret _ _ _ _ _ _ _ _ _ dX11_init_388 hH ⟨(kk.wS rfl), old, ka0, z0, ow0, ⟨q11, q9, q7, q5, q3, q1, (AJ.cons (AJ.pick (AJ.pick (AJ.pick (AJ.pick (AJ.pick (AJ.pick AJ.nil aq (i := 5) rfl) aq (i := 4) rfl) aq (i := 3) rfl) aq (i := 2) rfl) aq (i := 1) rfl) aq (i := 0) rfl) ma0 ka0 rfl (Fc.one (Int32.toInt_inj.mp (pc1.trans (by decide)))))⟩⟩
